theorem dX6_isCall_0 : decode cX6_isCall 0 = .ok (.iconst 0, 1) := by decide +kernel
theorem dX6_isCall_1 : decode cX6_isCall 1 = .ok (.istore_n 3, 1) := by decide +kernel
theorem dX6_isCall_2 : decode cX6_isCall 2 = .ok (.aload_n 0, 1) := by decide +kernel
theorem dX6_isCall_3 : decode cX6_isCall 3 = .ok (.getfield 24, 3) := by decide +kernel
set_option maxRecDepth 20000 in
theorem ggX6_isCall_Jx4a65c_iterator_32c93 : GoodIn wsX6_isCall wsJx4a65c_iterator_32c93 := goodIn_r _ [7, 8, 9, 10, 11, 12, 13, 14, 15, 16, 17, 18, 19, 20, 21, 63, 64, 65, 66, 67, 68, 69] (by decide +kernel) (by decide +kernel)
set_option maxRecDepth 20000 in
theorem gX6_isCall_Jx4a65c_iterator_32c93 : GoodIn wsX6_isCall (wsV RX6 60 RJx4a65c yJx4a65c_iterator_32c93 wsJx4a65c_iterator_32c93) := goodIn_app (goodIn_of _ (by decide +kernel)) ggX6_isCall_Jx4a65c_iterator_32c93
theorem dX6_isCall_6 : decode cX6_isCall 6 = .ok (.invokevirtual 60, 3) := by decide +kernel
theorem dX6_isCall_9 : decode cX6_isCall 9 = .ok (.astore 4, 2) := by decide +kernel
theorem dX6_isCall_11 : decode cX6_isCall 11 = .ok (.aload 4, 2) := by decide +kernel
set_option maxRecDepth 20000 in
theorem ggX6_isCall_Jx35411_hasNext_aae02 : GoodIn wsX6_isCall wsJx35411_hasNext_aae02 := goodIn_r _ [25, 26, 14, 63, 64, 65, 66, 67, 68, 69] (by decide +kernel) (by decide +kernel)
set_option maxRecDepth 20000 in
theorem gX6_isCall_Jx35411_hasNext_aae02_f64Jx35411 : GoodIn wsX6_isCall (va_wsF RX6 64 RJx35411 ⟨"java/util/Iterator", "hasNext", "()Z"⟩ yJx35411_hasNext_aae02 wsJx35411_hasNext_aae02) := goodIn_app (goodIn_of _ (by decide +kernel)) ggX6_isCall_Jx35411_hasNext_aae02
theorem dX6_isCall_13 : decode cX6_isCall 13 = .ok (.invokeinterface 64 1, 5) := by decide +kernel
theorem dX6_isCall_18 : decode cX6_isCall 18 = .ok (.ifCond .eq 56, 3) := by decide +kernel
theorem dX6_isCall_74 : decode cX6_isCall 74 = .ok (.iload_n 3, 1) := by decide +kernel
theorem dX6_isCall_75 : decode cX6_isCall 75 = .ok (.ireturn, 1) := by decide +kernel
theorem dX6_forgets_0 : decode cX6_forgets 0 = .ok (.iconst 0, 1) := by decide +kernel
theorem dX6_forgets_1 : decode cX6_forgets 1 = .ok (.istore_n 1, 1) := by decide +kernel
theorem dX6_forgets_2 : decode cX6_forgets 2 = .ok (.iload_n 1, 1) := by decide +kernel
theorem dX6_forgets_3 : decode cX6_forgets 3 = .ok (.aload_n 0, 1) := by decide +kernel
theorem dX6_forgets_4 : decode cX6_forgets 4 = .ok (.getfield 7, 3) := by decide +kernel
theorem dX6_forgets_7 : decode cX6_forgets 7 = .ok (.if_icmp .gt 43, 3) := by decide +kernel
theorem dX6_forgets_10 : decode cX6_forgets 10 = .ok (.iconst (-1), 1) := by decide +kernel
theorem dX6_forgets_11 : decode cX6_forgets 11 = .ok (.istore_n 2, 1) := by decide +kernel
theorem dX6_forgets_12 : decode cX6_forgets 12 = .ok (.iload_n 2, 1) := by decide +kernel
theorem dX6_forgets_13 : decode cX6_forgets 13 = .ok (.iconst 2, 1) := by decide +kernel
theorem dX6_forgets_14 : decode cX6_forgets 14 = .ok (.if_icmp .ge 30, 3) := by decide +kernel
theorem dX6_forgets_17 : decode cX6_forgets 17 = .ok (.aload_n 0, 1) := by decide +kernel
theorem dX6_forgets_18 : decode cX6_forgets 18 = .ok (.iload_n 1, 1) := by decide +kernel
theorem dX6_forgets_19 : decode cX6_forgets 19 = .ok (.iload_n 2, 1) := by decide +kernel
set_option maxRecDepth 20000 in
theorem ggX6_forgets_X6_isCall : GoodIn wsX6_forgets wsX6_isCall := goodIn_r _ [7, 8, 9, 10, 11, 12, 13, 14, 15, 16, 17, 18, 19, 20, 21, 22, 23, 24, 25, 26, 27, 28, 29, 30, 31, 32, 33, 34, 35, 36, 37, 38, 39, 40, 41, 42, 43, 44, 45, 46, 47, 48, 49, 53, 54, 55, 56, 57, 58, 59, 60, 61, 62, 63, 64, 65, 66, 67, 68, 69, 70, 71, 72, 73, 74, 75, 76, 77, 78, 79] (by decide +kernel) (by decide +kernel)
set_option maxRecDepth 20000 in
theorem gX6_forgets_X6_isCall : GoodIn wsX6_forgets (wsV RX6 143 RX6 yX6_isCall wsX6_isCall) := goodIn_app (goodIn_of _ (by decide +kernel)) ggX6_forgets_X6_isCall
theorem dX6_forgets_20 : decode cX6_forgets 20 = .ok (.invokevirtual 143, 3) := by decide +kernel
theorem dX6_forgets_23 : decode cX6_forgets 23 = .ok (.ifCond .ne 15, 3) := by decide +kernel
theorem dX6_forgets_26 : decode cX6_forgets 26 = .ok (.aload_n 0, 1) := by decide +kernel
theorem dX6_forgets_27 : decode cX6_forgets 27 = .ok (.getfield 29, 3) := by decide +kernel
theorem dX6_forgets_30 : decode cX6_forgets 30 = .ok (.iload_n 2, 1) := by decide +kernel
set_option maxRecDepth 20000 in
theorem ggX6_forgets_X6_row : GoodIn wsX6_forgets wsX6_row := goodIn_r _ [52] (by decide +kernel) (by decide +kernel)
set_option maxRecDepth 20000 in
theorem gX6_forgets_X6_row : GoodIn wsX6_forgets (va_wsS RX6 147 yX6_row wsX6_row) := goodIn_app (goodIn_of _ (by decide +kernel)) ggX6_forgets_X6_row
theorem dX6_forgets_31 : decode cX6_forgets 31 = .ok (.invokestatic 147, 3) := by decide +kernel
theorem dX6_forgets_34 : decode cX6_forgets 34 = .ok (.aaload, 1) := by decide +kernel
theorem dX6_forgets_35 : decode cX6_forgets 35 = .ok (.iload_n 1, 1) := by decide +kernel
theorem dX6_forgets_36 : decode cX6_forgets 36 = .ok (.aconst_null, 1) := by decide +kernel
theorem dX6_forgets_37 : decode cX6_forgets 37 = .ok (.aastore, 1) := by decide +kernel
theorem dX6_forgets_38 : decode cX6_forgets 38 = .ok (.iinc 2 2, 3) := by decide +kernel
theorem dX6_forgets_41 : decode cX6_forgets 41 = .ok (.goto (-29), 3) := by decide +kernel
theorem dX6_forgets_44 : decode cX6_forgets 44 = .ok (.iinc 1 1, 3) := by decide +kernel
theorem dX6_forgets_47 : decode cX6_forgets 47 = .ok (.goto (-45), 3) := by decide +kernel
theorem dX6_forgets_50 : decode cX6_forgets 50 = .ok (.return_, 1) := by decide +kernel
set_option maxHeartbeats 4000000 in
set_option maxRecDepth 100000 in
theorem c_X6_isCall (l : Launch) (hst : l.stackTraces = false) (em kw kb : Nat) (D : va_G) (mm : Nat) (p0 : Int32) (p1 : Int32) (t5 : Int32) (c2 : Nat) (ps2 : Nat) (pr : Nat) (l2 : Nat) (sz : Nat) : Met l yX6_isCall wsX6_isCall ({ frames := 3, cells := 1, slots := 4, locals := 53 }) (va_Pc [.ref mm, .int p0, .int p1] (tw_Pre em kw kb D sz [(mm, .inr (10, [.int 0, .int 9, .int t5, .int 99, .ref c2, .ref ps2, .ref pr, .int 0, .int 0, .int ((-1)), .ref l2, .long 0])), (ps2, .inr (3, [.int 0, .ref em, .int 0]))] [])) (va_Qi (fun (r : Int32) (u : tw_U) => r = 0 ∧ u = ([(mm, .inr (10, [.int 0, .int 9, .int t5, .int 99, .ref c2, .ref ps2, .ref pr, .int 0, .int 0, .int ((-1)), .ref l2, .long 0])), (ps2, .inr (3, [.int 0, .ref em, .int 0]))], [])) (tw_B D (va_A [(mm, .inr (10, [.int 0, .int 9, .int t5, .int 99, .ref c2, .ref ps2, .ref pr, .int 0, .int 0, .int ((-1)), .ref l2, .long 0])), (ps2, .inr (3, [.int 0, .ref em, .int 0]))] sz)) (va_A [(mm, .inr (10, [.int 0, .int 9, .int t5, .int 99, .ref c2, .ref ps2, .ref pr, .int 0, .int 0, .int ((-1)), .ref l2, .long 0])), (ps2, .inr (3, [.int 0, .ref em, .int 0]))] sz)) 1 4 (va_A [(mm, .inr (10, [.int 0, .int 9, .int t5, .int 99, .ref c2, .ref ps2, .ref pr, .int 0, .int 0, .int ((-1)), .ref l2, .long 0])), (ps2, .inr (3, [.int 0, .ref em, .int 0]))] sz) := by
  refine Met.ofW (cc := cX6_isCall) (maxL := 6) (ret := (some .boolean)) (by decide) rfl ?_
  intro p e s m args below meth c s₁ B hml hv
  obtain ⟨rfl, hsz, hP, hK, hD0, hF⟩ := hv
  have hx := B.exec
  have hb := B.bytes
  have hr := B.returns
  have hts := atoms_spec (ws := wsX6_isCall) B.pre
  have hown : s.vm.findClass RX6 = some m.cls := findClass_of_methodNamed B.named
  have hlocks := B.notSynchronized
  have hiRX6 : ∀ w ∈ u_ws RX6 TX6 12, w ∈ wsX6_isCall := by decide +kernel
  subst hsz
  have hD := hD0.self (sz := s.heap.size)
  generalize hAe : va_A [(mm, .inr (10, [.int 0, .int 9, .int t5, .int 99, .ref c2, .ref ps2, .ref pr, .int 0, .int 0, .int ((-1)), .ref l2, .long 0])), (ps2, .inr (3, [.int 0, .ref em, .int 0]))] s.heap.size = A at hD hF ⊢
  have hA : ∀ q : Nat, s.heap.size ≤ q → A q := fun q h => by rw [← hAe]; exact Or.inr h
  have hS : va_S A s.heap s.heap [] := va_S.rf
  have hP : va_P D vwCl [(mm, .inr (10, [.int 0, .int 9, .int t5, .int 99, .ref c2, .ref ps2, .ref pr, .int 0, .int 0, .int ((-1)), .ref l2, .long 0])), (ps2, .inr (3, [.int 0, .ref em, .int 0]))] s.heap := hP
  have hl := lv_entry ([.ref mm, .int p0, .int p1]) (n := 6) (Nat.le_of_ble_eq_true rfl)
  rw [lg_entry_eq]
  generalize (lg_sl ([.ref mm, .int p0, .int p1]) ++ List.replicate (6 - (lg_sl ([.ref mm, .int p0, .int p1])).length) Slot.unset).toArray = ls at hl ⊢
  have hl : lv_has ls 6 [(0, .ref mm), (1, .int p0), (2, .int p1)] := hl
  refine lv_iconst (v := 0) hx hb dX6_isCall_0 (by decide) ?_
  refine lv_istore_n (lv' := [(3, .int 0), (0, .ref mm), (1, .int p0), (2, .int p1)]) hx hb dX6_isCall_1 rfl hl (by decide) rfl (fun ls hl => ?_)
  refine lv_aload_n hx hb dX6_isCall_2 rfl (lv_at hl 1 rfl) ?_
  refine va_get (D := D) (ci := 10) (v := .ref ps2) (C := RX6) (T := TX6) (N := 12) hx hb hts hiRX6 hown hK hP 0 rfl rfl 5 (by decide) (hts (.fieldLink RX6 24 "TowerliftryModel" "persons" "Ljava/util/ArrayList;") (by decide +kernel)) (fun _ h9 => h9) rfl dX6_isCall_3 ?_
  have hPc := hP.sub (ws' := [(ps2, .inr (3, [.int 0, .ref em, .int 0]))]) [1] rfl
  have hDc := hD.sub (ws' := [(ps2, .inr (3, [.int 0, .ref em, .int 0]))]) [1] (by decide) rfl
  have hKc := hK.sub (tys' := []) [] rfl
  have hFc := va_free (wc := [(ps2, .inr (3, [.int 0, .ref em, .int 0]))]) hD hS hA [1] rfl
  refine va_callq (va_runV (As := []) (rest := []) ⟨hx, hb, hml, hown, hts⟩ (c_Jx4a65c_iterator_32c93 l hst em kw kb D ps2 em _) (cwV 0 hts gX6_isCall_Jx4a65c_iterator_32c93 rfl rfl rfl (by decide +kernel) ⟨(Nat.le_of_ble_eq_true rfl), (Nat.le_of_ble_eq_true rfl)⟩) (tw_preV hF hS hFc hPc hKc hDc (va_recv hKc hPc (ci := 3) (q0 := 0) rfl rfl)) rfl rfl hl.1 rfl (lv_room (Nat.le_of_ble_eq_true rfl)) dX6_isCall_6 ⟨(Nat.le_of_ble_eq_true rfl), (Nat.le_of_ble_eq_true rfl)⟩) hS (fun q _ h => hFc q h) hFc (fun r u t H locs ht hvm hw hB hz1 hk1 hS => ?_)
  obtain ⟨q_1, rfl, rfl⟩ := hw
  obtain ⟨hP, hD, hK⟩ := tw_join (wr := [(mm, .inr (10, [.int 0, .int 9, .int t5, .int 99, .ref c2, .ref ps2, .ref pr, .int 0, .int 0, .int ((-1)), .ref l2, .long 0]))]) hP hD hK [1] [0] rfl rfl (by decide) (by decide) hk1 hFc ht hvm hB
  have hP : va_P D vwCl [(mm, .inr (10, [.int 0, .int 9, .int t5, .int 99, .ref c2, .ref ps2, .ref pr, .int 0, .int 0, .int ((-1)), .ref l2, .long 0])), (q_1, .inr (2, [.int 0, .int ((-1)), .int 0, .ref ps2])), (ps2, .inr (3, [.int 0, .ref em, .int 0]))] _ := hP
  have hD : va_D A [(mm, .inr (10, [.int 0, .int 9, .int t5, .int 99, .ref c2, .ref ps2, .ref pr, .int 0, .int 0, .int ((-1)), .ref l2, .long 0])), (q_1, .inr (2, [.int 0, .int ((-1)), .int 0, .ref ps2])), (ps2, .inr (3, [.int 0, .ref em, .int 0]))] := hD
  have hK : va_K D vwCl [] s := hK
  refine W.widen (k := 1) (n := 4) (Nat.le_refl _) (Nat.le_refl _) ?_
  refine W.eq (g2 := F0 m 9 ls [.ref q_1]) rfl ?_
  refine lv_astore (lv' := [(4, .ref q_1), (3, .int 0), (0, .ref mm), (1, .int p0), (2, .int p1)]) hx hb dX6_isCall_9 hl (by decide) rfl (fun ls hl => ?_)
  refine lv_aload hx hb dX6_isCall_11 (lv_at hl 0 rfl) ?_
  have hPc := hP.sub (ws' := [(q_1, .inr (2, [.int 0, .int ((-1)), .int 0, .ref ps2])), (ps2, .inr (3, [.int 0, .ref em, .int 0]))]) [1, 2] rfl
  have hDc := hD.sub (ws' := [(q_1, .inr (2, [.int 0, .int ((-1)), .int 0, .ref ps2])), (ps2, .inr (3, [.int 0, .ref em, .int 0]))]) [1, 2] (by decide) rfl
  have hKc := hK.sub (tys' := []) [] rfl
  have hFc := va_free (wc := [(q_1, .inr (2, [.int 0, .int ((-1)), .int 0, .ref ps2])), (ps2, .inr (3, [.int 0, .ref em, .int 0]))]) hD hS hA [1, 2] rfl
  refine va_callFi (va_runF (hKc.1 2 _ rfl).2 (As := []) (rest := []) ⟨hx, hb, hml, hown, hts⟩ (c_Jx35411_hasNext_aae02 l hst em kw kb D q_1 ps2 em _) (va_cwF 0 hts gX6_isCall_Jx35411_hasNext_aae02_f64Jx35411 rfl rfl rfl (tw_fw hF) (by decide +kernel) ⟨(Nat.le_of_ble_eq_true rfl), (Nat.le_of_ble_eq_true rfl)⟩) (tw_preV hF hS hFc hPc hKc hDc (va_recv hKc hPc (ci := 2) (q0 := 0) rfl rfl)) rfl rfl hl.1 rfl (lv_room (Nat.le_of_ble_eq_true rfl)) dX6_isCall_13 ⟨(Nat.le_of_ble_eq_true rfl), (Nat.le_of_ble_eq_true rfl)⟩) hS (fun q _ h => hFc q h) hFc (fun r u t H locs ht hvm hw hB hz1 hk1 hS => ?_)
  obtain ⟨rfl, rfl⟩ := hw
  obtain ⟨hP, hD, hK⟩ := tw_join (wr := [(mm, .inr (10, [.int 0, .int 9, .int t5, .int 99, .ref c2, .ref ps2, .ref pr, .int 0, .int 0, .int ((-1)), .ref l2, .long 0]))]) hP hD hK [1, 2] [0] rfl rfl (by decide) (by decide) hk1 hFc ht hvm hB
  have hP : va_P D vwCl [(mm, .inr (10, [.int 0, .int 9, .int t5, .int 99, .ref c2, .ref ps2, .ref pr, .int 0, .int 0, .int ((-1)), .ref l2, .long 0])), (q_1, .inr (2, [.int 0, .int ((-1)), .int 0, .ref ps2])), (ps2, .inr (3, [.int 0, .ref em, .int 0]))] _ := hP
  have hD : va_D A [(mm, .inr (10, [.int 0, .int 9, .int t5, .int 99, .ref c2, .ref ps2, .ref pr, .int 0, .int 0, .int ((-1)), .ref l2, .long 0])), (q_1, .inr (2, [.int 0, .int ((-1)), .int 0, .ref ps2])), (ps2, .inr (3, [.int 0, .ref em, .int 0]))] := hD
  have hK : va_K D vwCl [] s := hK
  refine W.widen (k := 1) (n := 4) (Nat.le_refl _) (Nat.le_refl _) ?_
  refine W.eq (g2 := F0 m 18 ls [.int 0]) rfl ?_
  refine lv_if_eq (tgt := 74) hx hb dX6_isCall_18 (by decide) (fun c9 => ?_) (fun c9 => absurd c9 (by decide))
  refine lv_iload_n hx hb dX6_isCall_74 rfl (lv_at hl 1 rfl) ?_
  refine W.widen (k := 1) (n := 4) (Nat.le_of_ble_eq_true rfl) (Nat.le_of_ble_eq_true rfl) ?_
  have hP9 := hP.sub (ws' := [(mm, .inr (10, [.int 0, .int 9, .int t5, .int 99, .ref c2, .ref ps2, .ref pr, .int 0, .int 0, .int ((-1)), .ref l2, .long 0])), (ps2, .inr (3, [.int 0, .ref em, .int 0]))]) [0, 2] rfl
  have hD9 := hD.sub (ws' := [(mm, .inr (10, [.int 0, .int 9, .int t5, .int 99, .ref c2, .ref ps2, .ref pr, .int 0, .int 0, .int ((-1)), .ref l2, .long 0])), (ps2, .inr (3, [.int 0, .ref em, .int 0]))]) [0, 2] (by decide) rfl
  have hK9 := hK.sub (tys' := []) [] rfl
  exact W.zret (v := 0) (ty := .boolean) hx hb hr (by decide) (fun t ht hW => ⟨⟨0, ([(mm, .inr (10, [.int 0, .int 9, .int t5, .int 99, .ref c2, .ref ps2, .ref pr, .int 0, .int 0, .int ((-1)), .ref l2, .long 0])), (ps2, .inr (3, [.int 0, .ref em, .int 0]))], []), rfl, ⟨rfl, rfl⟩, by rw [ht]; exact hP9, va_K.moved hW.alike hK9, hD9⟩, hS.F ht⟩) hS.2.2 dX6_isCall_75
set_option maxHeartbeats 4000000 in
set_option maxRecDepth 100000 in
theorem c_X6_forgets (l : Launch) (hst : l.stackTraces = false) (em kw kb : Nat) (D : va_G) (mm : Nat) (t5 : Int32) (c2 : Nat) (ps2 : Nat) (pr : Nat) (l2 : Nat) (cP : ClassId) (r0 : Nat) (cR : ClassId) (r1 : Nat) (sz : Nat) : Met l yX6_forgets wsX6_forgets ({ frames := 4, cells := 20, slots := 80, locals := 78 }) (va_Pc [.ref mm] (tw_Pre em kw kb D sz [(mm, .inr (10, [.int 0, .int 9, .int t5, .int 99, .ref c2, .ref ps2, .ref pr, .int 0, .int 0, .int ((-1)), .ref l2, .long 0])), (ps2, .inr (3, [.int 0, .ref em, .int 0])), (pr, .inl (cP, 2, .inr (.inr (.inr (.inr ((tw_two r0 r1))))))), (r0, .inl (cR, 24, .inr (.inr (.inr (.inr ((fun _ => none))))))), (r1, .inl (cR, 24, .inr (.inr (.inr (.inr ((fun _ => none)))))))] [(cP, .array (.object "TowerliftryModel$Car")), (cR, .object "TowerliftryModel$Car")])) (va_Qv (fun (u : tw_U) => u = ([(mm, .inr (10, [.int 0, .int 9, .int t5, .int 99, .ref c2, .ref ps2, .ref pr, .int 0, .int 0, .int ((-1)), .ref l2, .long 0])), (ps2, .inr (3, [.int 0, .ref em, .int 0])), (pr, .inl (cP, 2, .inr (.inr (.inr (.inr ((tw_two r0 r1))))))), (r0, .inl (cR, 24, .inr (.inr (.inr (.inr ((fun _ => none))))))), (r1, .inl (cR, 24, .inr (.inr (.inr (.inr ((fun _ => none)))))))], [])) (tw_B D (va_A [(mm, .inr (10, [.int 0, .int 9, .int t5, .int 99, .ref c2, .ref ps2, .ref pr, .int 0, .int 0, .int ((-1)), .ref l2, .long 0])), (ps2, .inr (3, [.int 0, .ref em, .int 0])), (pr, .inl (cP, 2, .inr (.inr (.inr (.inr ((tw_two r0 r1))))))), (r0, .inl (cR, 24, .inr (.inr (.inr (.inr ((fun _ => none))))))), (r1, .inl (cR, 24, .inr (.inr (.inr (.inr ((fun _ => none)))))))] sz)) (va_A [(mm, .inr (10, [.int 0, .int 9, .int t5, .int 99, .ref c2, .ref ps2, .ref pr, .int 0, .int 0, .int ((-1)), .ref l2, .long 0])), (ps2, .inr (3, [.int 0, .ref em, .int 0])), (pr, .inl (cP, 2, .inr (.inr (.inr (.inr ((tw_two r0 r1))))))), (r0, .inl (cR, 24, .inr (.inr (.inr (.inr ((fun _ => none))))))), (r1, .inl (cR, 24, .inr (.inr (.inr (.inr ((fun _ => none)))))))] sz)) 20 80 (va_A [(mm, .inr (10, [.int 0, .int 9, .int t5, .int 99, .ref c2, .ref ps2, .ref pr, .int 0, .int 0, .int ((-1)), .ref l2, .long 0])), (ps2, .inr (3, [.int 0, .ref em, .int 0])), (pr, .inl (cP, 2, .inr (.inr (.inr (.inr ((tw_two r0 r1))))))), (r0, .inl (cR, 24, .inr (.inr (.inr (.inr ((fun _ => none))))))), (r1, .inl (cR, 24, .inr (.inr (.inr (.inr ((fun _ => none)))))))] sz) := by
  refine Met.ofW (cc := cX6_forgets) (maxL := 3) (ret := none) (by decide) rfl ?_
  intro p e s m args below meth c s₁ B hml hv
  obtain ⟨rfl, hsz, hP, hK, hD0, hF⟩ := hv
  have hx := B.exec
  have hb := B.bytes
  have hr := B.returns
  have hts := atoms_spec (ws := wsX6_forgets) B.pre
  have hown : s.vm.findClass RX6 = some m.cls := findClass_of_methodNamed B.named
  have hlocks := B.notSynchronized
  have hiRX6 : ∀ w ∈ u_ws RX6 TX6 12, w ∈ wsX6_forgets := by decide +kernel
  subst hsz
  have hD := hD0.self (sz := s.heap.size)
  generalize hAe : va_A [(mm, .inr (10, [.int 0, .int 9, .int t5, .int 99, .ref c2, .ref ps2, .ref pr, .int 0, .int 0, .int ((-1)), .ref l2, .long 0])), (ps2, .inr (3, [.int 0, .ref em, .int 0])), (pr, .inl (cP, 2, .inr (.inr (.inr (.inr ((tw_two r0 r1))))))), (r0, .inl (cR, 24, .inr (.inr (.inr (.inr ((fun _ => none))))))), (r1, .inl (cR, 24, .inr (.inr (.inr (.inr ((fun _ => none)))))))] s.heap.size = A at hD hF ⊢
  have hA : ∀ q : Nat, s.heap.size ≤ q → A q := fun q h => by rw [← hAe]; exact Or.inr h
  have hS : va_S A s.heap s.heap [] := va_S.rf
  have hP : va_P D vwCl [(mm, .inr (10, [.int 0, .int 9, .int t5, .int 99, .ref c2, .ref ps2, .ref pr, .int 0, .int 0, .int ((-1)), .ref l2, .long 0])), (ps2, .inr (3, [.int 0, .ref em, .int 0])), (pr, .inl (cP, 2, .inr (.inr (.inr (.inr ((tw_two r0 r1))))))), (r0, .inl (cR, 24, .inr (.inr (.inr (.inr ((fun _ => none))))))), (r1, .inl (cR, 24, .inr (.inr (.inr (.inr ((fun _ => none)))))))] s.heap := hP
  have hl := lv_entry ([.ref mm]) (n := 3) (Nat.le_of_ble_eq_true rfl)
  rw [lg_entry_eq]
  generalize (lg_sl ([.ref mm]) ++ List.replicate (3 - (lg_sl ([.ref mm])).length) Slot.unset).toArray = ls at hl ⊢
  have hl : lv_has ls 3 [(0, .ref mm)] := hl
  refine lv_iconst (v := 0) hx hb dX6_forgets_0 (by decide) ?_
  refine lv_istore_n (lv' := [(1, .int 0), (0, .ref mm)]) hx hb dX6_forgets_1 rfl hl (by decide) rfl (fun ls hl => ?_)
  refine lv_iload_n hx hb dX6_forgets_2 rfl (lv_at hl 0 rfl) ?_
  refine lv_aload_n hx hb dX6_forgets_3 rfl (lv_at hl 1 rfl) ?_
  refine va_get (D := D) (ci := 10) (v := .int 9) (C := RX6) (T := TX6) (N := 12) hx hb hts hiRX6 hown hK hP 0 rfl rfl 1 (by decide) (hts (.fieldLink RX6 7 "TowerliftryModel" "top" "I") (by decide +kernel)) (fun _ h9 => h9) rfl dX6_forgets_4 ?_
  refine lv_icmp_gt (tgt := 50) hx hb dX6_forgets_7 (by decide) (fun c9 => absurd c9 (by decide)) (fun c9 => ?_)
  refine lv_iconst (v := (-1)) hx hb dX6_forgets_10 (by decide) ?_
  refine lv_istore_n (lv' := [(2, .int ((-1))), (1, .int 0), (0, .ref mm)]) hx hb dX6_forgets_11 rfl hl (by decide) rfl (fun ls hl => ?_)
  refine lv_iload_n hx hb dX6_forgets_12 rfl (lv_at hl 0 rfl) ?_
  refine lv_iconst (v := 2) hx hb dX6_forgets_13 (by decide) ?_
  refine lv_icmp_ge (tgt := 44) hx hb dX6_forgets_14 (by decide) (fun c9 => absurd c9 (by decide)) (fun c9 => ?_)
  refine lv_aload_n hx hb dX6_forgets_17 rfl (lv_at hl 2 rfl) ?_
  refine lv_iload_n hx hb dX6_forgets_18 rfl (lv_at hl 1 rfl) ?_
  refine lv_iload_n hx hb dX6_forgets_19 rfl (lv_at hl 0 rfl) ?_
  have hPc := hP.sub (ws' := [(mm, .inr (10, [.int 0, .int 9, .int t5, .int 99, .ref c2, .ref ps2, .ref pr, .int 0, .int 0, .int ((-1)), .ref l2, .long 0])), (ps2, .inr (3, [.int 0, .ref em, .int 0]))]) [0, 1] rfl
  have hDc := hD.sub (ws' := [(mm, .inr (10, [.int 0, .int 9, .int t5, .int 99, .ref c2, .ref ps2, .ref pr, .int 0, .int 0, .int ((-1)), .ref l2, .long 0])), (ps2, .inr (3, [.int 0, .ref em, .int 0]))]) [0, 1] (by decide) rfl
  have hKc := hK.sub (tys' := []) [] rfl
  have hFc := va_free (wc := [(mm, .inr (10, [.int 0, .int 9, .int t5, .int 99, .ref c2, .ref ps2, .ref pr, .int 0, .int 0, .int ((-1)), .ref l2, .long 0])), (ps2, .inr (3, [.int 0, .ref em, .int 0]))]) hD hS hA [0, 1] rfl
  refine va_calli (va_runV (As := [.int 0, .int ((-1))]) (rest := []) ⟨hx, hb, hml, hown, hts⟩ (c_X6_isCall l hst em kw kb D mm 0 ((-1)) t5 c2 ps2 pr l2 _) (cwV 2 hts gX6_forgets_X6_isCall rfl rfl rfl (by decide +kernel) ⟨(Nat.le_of_ble_eq_true rfl), (Nat.le_of_ble_eq_true rfl)⟩) (tw_preV hF hS hFc hPc hKc hDc (va_recv hKc hPc (ci := 10) (q0 := 0) rfl rfl)) rfl rfl hl.1 rfl (lv_room (Nat.le_of_ble_eq_true rfl)) dX6_forgets_20 ⟨(Nat.le_of_ble_eq_true rfl), (Nat.le_of_ble_eq_true rfl)⟩) hS (fun q _ h => hFc q h) hFc (fun r u t H locs ht hvm hw hB hz1 hk1 hS => ?_)
  obtain ⟨rfl, rfl⟩ := hw
  obtain ⟨hP, hD, hK⟩ := tw_join (wr := [(pr, .inl (cP, 2, .inr (.inr (.inr (.inr ((tw_two r0 r1))))))), (r0, .inl (cR, 24, .inr (.inr (.inr (.inr ((fun _ => none))))))), (r1, .inl (cR, 24, .inr (.inr (.inr (.inr ((fun _ => none)))))))]) hP hD hK [0, 1] [2, 3, 4] rfl rfl (by decide) (by decide) hk1 hFc ht hvm hB
  have hP : va_P D vwCl [(pr, .inl (cP, 2, .inr (.inr (.inr (.inr ((tw_two r0 r1))))))), (r0, .inl (cR, 24, .inr (.inr (.inr (.inr ((fun _ => none))))))), (r1, .inl (cR, 24, .inr (.inr (.inr (.inr ((fun _ => none))))))), (mm, .inr (10, [.int 0, .int 9, .int t5, .int 99, .ref c2, .ref ps2, .ref pr, .int 0, .int 0, .int ((-1)), .ref l2, .long 0])), (ps2, .inr (3, [.int 0, .ref em, .int 0]))] _ := hP
  have hD : va_D A [(pr, .inl (cP, 2, .inr (.inr (.inr (.inr ((tw_two r0 r1))))))), (r0, .inl (cR, 24, .inr (.inr (.inr (.inr ((fun _ => none))))))), (r1, .inl (cR, 24, .inr (.inr (.inr (.inr ((fun _ => none))))))), (mm, .inr (10, [.int 0, .int 9, .int t5, .int 99, .ref c2, .ref ps2, .ref pr, .int 0, .int 0, .int ((-1)), .ref l2, .long 0])), (ps2, .inr (3, [.int 0, .ref em, .int 0]))] := hD
  have hK : va_K D vwCl [(cP, .array (.object "TowerliftryModel$Car")), (cR, .object "TowerliftryModel$Car")] s := hK
  refine W.widen (k := 1) (n := 4) (Nat.le_refl _) (Nat.le_refl _) ?_
  refine W.eq (g2 := F0 m 23 ls [.int 0]) rfl ?_
  refine lv_if_ne (tgt := 38) hx hb dX6_forgets_23 (by decide) (fun c9 => absurd c9 (by decide)) (fun c9 => ?_)
  refine lv_aload_n hx hb dX6_forgets_26 rfl (lv_at hl 2 rfl) ?_
  refine va_get (D := D) (ci := 10) (v := .ref pr) (C := RX6) (T := TX6) (N := 12) hx hb hts hiRX6 hown hK hP 3 rfl rfl 6 (by decide) (hts (.fieldLink RX6 29 "TowerliftryModel" "promises" "[[LTowerliftryModel$Car;") (by decide +kernel)) (fun _ h9 => h9) rfl dX6_forgets_27 ?_
  refine lv_iload_n hx hb dX6_forgets_30 rfl (lv_at hl 0 rfl) ?_
  have hPc := hP.sub (ws' := []) [] rfl
  have hDc := hD.sub (ws' := []) [] (by decide) rfl
  have hKc := hK.sub (tys' := []) [] rfl
  have hFc := va_free (wc := []) hD hS hA [] rfl
  refine va_calli (va_runS (As := [.int ((-1))]) (rest := [.ref pr]) ⟨hx, hb, hml, hown, hts⟩ (c_X6_rowd l hst em kw kb D  _) (va_cwS 1 hts gX6_forgets_X6_row rfl rfl rfl (by decide +kernel) ⟨(Nat.le_of_ble_eq_true rfl), (Nat.le_of_ble_eq_true rfl)⟩) (tw_preS hF hS hFc hPc hKc hDc) rfl rfl hl.1 rfl (lv_room (Nat.le_of_ble_eq_true rfl)) dX6_forgets_31 ⟨(Nat.le_of_ble_eq_true rfl), (Nat.le_of_ble_eq_true rfl)⟩) hS (fun q _ h => hFc q h) hFc (fun r u t H locs ht hvm hw hB hz1 hk1 hS => ?_)
  obtain ⟨rfl, rfl⟩ := hw
  obtain ⟨hP, hD, hK⟩ := tw_join (wr := [(pr, .inl (cP, 2, .inr (.inr (.inr (.inr ((tw_two r0 r1))))))), (r0, .inl (cR, 24, .inr (.inr (.inr (.inr ((fun _ => none))))))), (r1, .inl (cR, 24, .inr (.inr (.inr (.inr ((fun _ => none))))))), (mm, .inr (10, [.int 0, .int 9, .int t5, .int 99, .ref c2, .ref ps2, .ref pr, .int 0, .int 0, .int ((-1)), .ref l2, .long 0])), (ps2, .inr (3, [.int 0, .ref em, .int 0]))]) hP hD hK [] [0, 1, 2, 3, 4] rfl rfl (by decide) (by decide) hk1 hFc ht hvm hB
  have hP : va_P D vwCl [(pr, .inl (cP, 2, .inr (.inr (.inr (.inr ((tw_two r0 r1))))))), (r0, .inl (cR, 24, .inr (.inr (.inr (.inr ((fun _ => none))))))), (r1, .inl (cR, 24, .inr (.inr (.inr (.inr ((fun _ => none))))))), (mm, .inr (10, [.int 0, .int 9, .int t5, .int 99, .ref c2, .ref ps2, .ref pr, .int 0, .int 0, .int ((-1)), .ref l2, .long 0])), (ps2, .inr (3, [.int 0, .ref em, .int 0]))] _ := hP
  have hD : va_D A [(pr, .inl (cP, 2, .inr (.inr (.inr (.inr ((tw_two r0 r1))))))), (r0, .inl (cR, 24, .inr (.inr (.inr (.inr ((fun _ => none))))))), (r1, .inl (cR, 24, .inr (.inr (.inr (.inr ((fun _ => none))))))), (mm, .inr (10, [.int 0, .int 9, .int t5, .int 99, .ref c2, .ref ps2, .ref pr, .int 0, .int 0, .int ((-1)), .ref l2, .long 0])), (ps2, .inr (3, [.int 0, .ref em, .int 0]))] := hD
  have hK : va_K D vwCl [(cP, .array (.object "TowerliftryModel$Car")), (cR, .object "TowerliftryModel$Car")] s := hK
  refine W.widen (k := 1) (n := 4) (Nat.le_refl _) (Nat.le_refl _) ?_
  refine W.eq (g2 := F0 m 34 ls [.int 0, .ref pr]) rfl ?_
  refine tw_aldA hx hb hK hP 0 0 rfl rfl (by unfold vp_in; decide) dX6_forgets_34 ?_
  rw [tw_two0]
  refine W.eq (g2 := F0 m 35 ls [.ref r0]) rfl ?_
  refine lv_iload_n hx hb dX6_forgets_35 rfl (lv_at hl 1 rfl) ?_
  refine lv_null hx hb dX6_forgets_36 ?_
  refine va_astqN hx hb hK hP hD hS 1 1 rfl rfl (by unfold vp_in; decide) dX6_forgets_37 (fun H locs hP hD hS => ?_)
  have hP : va_P D vwCl [(pr, .inl (cP, 2, .inr (.inr (.inr (.inr ((tw_two r0 r1))))))), (r0, .inl (cR, 24, .inr (.inr (.inr (.inr (va_up ((fun _ => none)) (0 : Int32).toNatClampNeg none)))))), (r1, .inl (cR, 24, .inr (.inr (.inr (.inr ((fun _ => none))))))), (mm, .inr (10, [.int 0, .int 9, .int t5, .int 99, .ref c2, .ref ps2, .ref pr, .int 0, .int 0, .int ((-1)), .ref l2, .long 0])), (ps2, .inr (3, [.int 0, .ref em, .int 0]))] _ := hP
  have hD : va_D A [(pr, .inl (cP, 2, .inr (.inr (.inr (.inr ((tw_two r0 r1))))))), (r0, .inl (cR, 24, .inr (.inr (.inr (.inr (va_up ((fun _ => none)) (0 : Int32).toNatClampNeg none)))))), (r1, .inl (cR, 24, .inr (.inr (.inr (.inr ((fun _ => none))))))), (mm, .inr (10, [.int 0, .int 9, .int t5, .int 99, .ref c2, .ref ps2, .ref pr, .int 0, .int 0, .int ((-1)), .ref l2, .long 0])), (ps2, .inr (3, [.int 0, .ref em, .int 0]))] := hD
  rw [tw_upn] at hP hD
  have hP : va_P D vwCl [(pr, .inl (cP, 2, .inr (.inr (.inr (.inr ((tw_two r0 r1))))))), (r0, .inl (cR, 24, .inr (.inr (.inr (.inr ((fun _ => none))))))), (r1, .inl (cR, 24, .inr (.inr (.inr (.inr ((fun _ => none))))))), (mm, .inr (10, [.int 0, .int 9, .int t5, .int 99, .ref c2, .ref ps2, .ref pr, .int 0, .int 0, .int ((-1)), .ref l2, .long 0])), (ps2, .inr (3, [.int 0, .ref em, .int 0]))] _ := hP
  have hD : va_D A [(pr, .inl (cP, 2, .inr (.inr (.inr (.inr ((tw_two r0 r1))))))), (r0, .inl (cR, 24, .inr (.inr (.inr (.inr ((fun _ => none))))))), (r1, .inl (cR, 24, .inr (.inr (.inr (.inr ((fun _ => none))))))), (mm, .inr (10, [.int 0, .int 9, .int t5, .int 99, .ref c2, .ref ps2, .ref pr, .int 0, .int 0, .int ((-1)), .ref l2, .long 0])), (ps2, .inr (3, [.int 0, .ref em, .int 0]))] := hD
  refine lv_iinc (v := 1) (lv' := [(2, .int 1), (1, .int 0), (0, .ref mm)]) hx hb dX6_forgets_38 hl (k := 0) rfl (by decide) (by decide) rfl (fun ls hl => ?_)
  refine lv_goto (tgt := 12) hx hb dX6_forgets_41 (by decide) ?_
  refine lv_iload_n hx hb dX6_forgets_12 rfl (lv_at hl 0 rfl) ?_
  refine lv_iconst (v := 2) hx hb dX6_forgets_13 (by decide) ?_
  refine lv_icmp_ge (tgt := 44) hx hb dX6_forgets_14 (by decide) (fun c9 => absurd c9 (by decide)) (fun c9 => ?_)
  refine lv_aload_n hx hb dX6_forgets_17 rfl (lv_at hl 2 rfl) ?_
  refine lv_iload_n hx hb dX6_forgets_18 rfl (lv_at hl 1 rfl) ?_
  refine lv_iload_n hx hb dX6_forgets_19 rfl (lv_at hl 0 rfl) ?_
  have hPc := hP.sub (ws' := [(mm, .inr (10, [.int 0, .int 9, .int t5, .int 99, .ref c2, .ref ps2, .ref pr, .int 0, .int 0, .int ((-1)), .ref l2, .long 0])), (ps2, .inr (3, [.int 0, .ref em, .int 0]))]) [3, 4] rfl
  have hDc := hD.sub (ws' := [(mm, .inr (10, [.int 0, .int 9, .int t5, .int 99, .ref c2, .ref ps2, .ref pr, .int 0, .int 0, .int ((-1)), .ref l2, .long 0])), (ps2, .inr (3, [.int 0, .ref em, .int 0]))]) [3, 4] (by decide) rfl
  have hKc := hK.sub (tys' := []) [] rfl
  have hFc := va_free (wc := [(mm, .inr (10, [.int 0, .int 9, .int t5, .int 99, .ref c2, .ref ps2, .ref pr, .int 0, .int 0, .int ((-1)), .ref l2, .long 0])), (ps2, .inr (3, [.int 0, .ref em, .int 0]))]) hD hS hA [3, 4] rfl
  refine va_calli (va_runV (As := [.int 0, .int 1]) (rest := []) ⟨hx, hb, hml, hown, hts⟩ (c_X6_isCall l hst em kw kb D mm 0 1 t5 c2 ps2 pr l2 _) (cwV 2 hts gX6_forgets_X6_isCall rfl rfl rfl (by decide +kernel) ⟨(Nat.le_of_ble_eq_true rfl), (Nat.le_of_ble_eq_true rfl)⟩) (tw_preV hF hS hFc hPc hKc hDc (va_recv hKc hPc (ci := 10) (q0 := 0) rfl rfl)) rfl rfl hl.1 rfl (lv_room (Nat.le_of_ble_eq_true rfl)) dX6_forgets_20 ⟨(Nat.le_of_ble_eq_true rfl), (Nat.le_of_ble_eq_true rfl)⟩) hS (fun q _ h => hFc q h) hFc (fun r u t H locs ht hvm hw hB hz1 hk1 hS => ?_)
  obtain ⟨rfl, rfl⟩ := hw
  obtain ⟨hP, hD, hK⟩ := tw_join (wr := [(pr, .inl (cP, 2, .inr (.inr (.inr (.inr ((tw_two r0 r1))))))), (r0, .inl (cR, 24, .inr (.inr (.inr (.inr ((fun _ => none))))))), (r1, .inl (cR, 24, .inr (.inr (.inr (.inr ((fun _ => none)))))))]) hP hD hK [3, 4] [0, 1, 2] rfl rfl (by decide) (by decide) hk1 hFc ht hvm hB
  have hP : va_P D vwCl [(pr, .inl (cP, 2, .inr (.inr (.inr (.inr ((tw_two r0 r1))))))), (r0, .inl (cR, 24, .inr (.inr (.inr (.inr ((fun _ => none))))))), (r1, .inl (cR, 24, .inr (.inr (.inr (.inr ((fun _ => none))))))), (mm, .inr (10, [.int 0, .int 9, .int t5, .int 99, .ref c2, .ref ps2, .ref pr, .int 0, .int 0, .int ((-1)), .ref l2, .long 0])), (ps2, .inr (3, [.int 0, .ref em, .int 0]))] _ := hP
  have hD : va_D A [(pr, .inl (cP, 2, .inr (.inr (.inr (.inr ((tw_two r0 r1))))))), (r0, .inl (cR, 24, .inr (.inr (.inr (.inr ((fun _ => none))))))), (r1, .inl (cR, 24, .inr (.inr (.inr (.inr ((fun _ => none))))))), (mm, .inr (10, [.int 0, .int 9, .int t5, .int 99, .ref c2, .ref ps2, .ref pr, .int 0, .int 0, .int ((-1)), .ref l2, .long 0])), (ps2, .inr (3, [.int 0, .ref em, .int 0]))] := hD
  have hK : va_K D vwCl [(cP, .array (.object "TowerliftryModel$Car")), (cR, .object "TowerliftryModel$Car")] s := hK
  refine W.widen (k := 2) (n := 8) (Nat.le_refl _) (Nat.le_refl _) ?_
  refine W.eq (g2 := F0 m 23 ls [.int 0]) rfl ?_
  refine lv_if_ne (tgt := 38) hx hb dX6_forgets_23 (by decide) (fun c9 => absurd c9 (by decide)) (fun c9 => ?_)
  refine lv_aload_n hx hb dX6_forgets_26 rfl (lv_at hl 2 rfl) ?_
  refine va_get (D := D) (ci := 10) (v := .ref pr) (C := RX6) (T := TX6) (N := 12) hx hb hts hiRX6 hown hK hP 3 rfl rfl 6 (by decide) (hts (.fieldLink RX6 29 "TowerliftryModel" "promises" "[[LTowerliftryModel$Car;") (by decide +kernel)) (fun _ h9 => h9) rfl dX6_forgets_27 ?_
  refine lv_iload_n hx hb dX6_forgets_30 rfl (lv_at hl 0 rfl) ?_
  have hPc := hP.sub (ws' := []) [] rfl
  have hDc := hD.sub (ws' := []) [] (by decide) rfl
  have hKc := hK.sub (tys' := []) [] rfl
  have hFc := va_free (wc := []) hD hS hA [] rfl
  refine va_calli (va_runS (As := [.int 1]) (rest := [.ref pr]) ⟨hx, hb, hml, hown, hts⟩ (c_X6_rowu l hst em kw kb D  _) (va_cwS 1 hts gX6_forgets_X6_row rfl rfl rfl (by decide +kernel) ⟨(Nat.le_of_ble_eq_true rfl), (Nat.le_of_ble_eq_true rfl)⟩) (tw_preS hF hS hFc hPc hKc hDc) rfl rfl hl.1 rfl (lv_room (Nat.le_of_ble_eq_true rfl)) dX6_forgets_31 ⟨(Nat.le_of_ble_eq_true rfl), (Nat.le_of_ble_eq_true rfl)⟩) hS (fun q _ h => hFc q h) hFc (fun r u t H locs ht hvm hw hB hz1 hk1 hS => ?_)
  obtain ⟨rfl, rfl⟩ := hw
  obtain ⟨hP, hD, hK⟩ := tw_join (wr := [(pr, .inl (cP, 2, .inr (.inr (.inr (.inr ((tw_two r0 r1))))))), (r0, .inl (cR, 24, .inr (.inr (.inr (.inr ((fun _ => none))))))), (r1, .inl (cR, 24, .inr (.inr (.inr (.inr ((fun _ => none))))))), (mm, .inr (10, [.int 0, .int 9, .int t5, .int 99, .ref c2, .ref ps2, .ref pr, .int 0, .int 0, .int ((-1)), .ref l2, .long 0])), (ps2, .inr (3, [.int 0, .ref em, .int 0]))]) hP hD hK [] [0, 1, 2, 3, 4] rfl rfl (by decide) (by decide) hk1 hFc ht hvm hB
  have hP : va_P D vwCl [(pr, .inl (cP, 2, .inr (.inr (.inr (.inr ((tw_two r0 r1))))))), (r0, .inl (cR, 24, .inr (.inr (.inr (.inr ((fun _ => none))))))), (r1, .inl (cR, 24, .inr (.inr (.inr (.inr ((fun _ => none))))))), (mm, .inr (10, [.int 0, .int 9, .int t5, .int 99, .ref c2, .ref ps2, .ref pr, .int 0, .int 0, .int ((-1)), .ref l2, .long 0])), (ps2, .inr (3, [.int 0, .ref em, .int 0]))] _ := hP
  have hD : va_D A [(pr, .inl (cP, 2, .inr (.inr (.inr (.inr ((tw_two r0 r1))))))), (r0, .inl (cR, 24, .inr (.inr (.inr (.inr ((fun _ => none))))))), (r1, .inl (cR, 24, .inr (.inr (.inr (.inr ((fun _ => none))))))), (mm, .inr (10, [.int 0, .int 9, .int t5, .int 99, .ref c2, .ref ps2, .ref pr, .int 0, .int 0, .int ((-1)), .ref l2, .long 0])), (ps2, .inr (3, [.int 0, .ref em, .int 0]))] := hD
  have hK : va_K D vwCl [(cP, .array (.object "TowerliftryModel$Car")), (cR, .object "TowerliftryModel$Car")] s := hK
  refine W.widen (k := 2) (n := 8) (Nat.le_refl _) (Nat.le_refl _) ?_
  refine W.eq (g2 := F0 m 34 ls [.int 1, .ref pr]) rfl ?_
  refine tw_aldA hx hb hK hP 0 0 rfl rfl (by unfold vp_in; decide) dX6_forgets_34 ?_
  rw [tw_two1]
  refine W.eq (g2 := F0 m 35 ls [.ref r1]) rfl ?_
  refine lv_iload_n hx hb dX6_forgets_35 rfl (lv_at hl 1 rfl) ?_
  refine lv_null hx hb dX6_forgets_36 ?_
  refine va_astqN hx hb hK hP hD hS 2 1 rfl rfl (by unfold vp_in; decide) dX6_forgets_37 (fun H locs hP hD hS => ?_)
  have hP : va_P D vwCl [(pr, .inl (cP, 2, .inr (.inr (.inr (.inr ((tw_two r0 r1))))))), (r0, .inl (cR, 24, .inr (.inr (.inr (.inr ((fun _ => none))))))), (r1, .inl (cR, 24, .inr (.inr (.inr (.inr (va_up ((fun _ => none)) (0 : Int32).toNatClampNeg none)))))), (mm, .inr (10, [.int 0, .int 9, .int t5, .int 99, .ref c2, .ref ps2, .ref pr, .int 0, .int 0, .int ((-1)), .ref l2, .long 0])), (ps2, .inr (3, [.int 0, .ref em, .int 0]))] _ := hP
  have hD : va_D A [(pr, .inl (cP, 2, .inr (.inr (.inr (.inr ((tw_two r0 r1))))))), (r0, .inl (cR, 24, .inr (.inr (.inr (.inr ((fun _ => none))))))), (r1, .inl (cR, 24, .inr (.inr (.inr (.inr (va_up ((fun _ => none)) (0 : Int32).toNatClampNeg none)))))), (mm, .inr (10, [.int 0, .int 9, .int t5, .int 99, .ref c2, .ref ps2, .ref pr, .int 0, .int 0, .int ((-1)), .ref l2, .long 0])), (ps2, .inr (3, [.int 0, .ref em, .int 0]))] := hD
  rw [tw_upn] at hP hD
  have hP : va_P D vwCl [(pr, .inl (cP, 2, .inr (.inr (.inr (.inr ((tw_two r0 r1))))))), (r0, .inl (cR, 24, .inr (.inr (.inr (.inr ((fun _ => none))))))), (r1, .inl (cR, 24, .inr (.inr (.inr (.inr ((fun _ => none))))))), (mm, .inr (10, [.int 0, .int 9, .int t5, .int 99, .ref c2, .ref ps2, .ref pr, .int 0, .int 0, .int ((-1)), .ref l2, .long 0])), (ps2, .inr (3, [.int 0, .ref em, .int 0]))] _ := hP
  have hD : va_D A [(pr, .inl (cP, 2, .inr (.inr (.inr (.inr ((tw_two r0 r1))))))), (r0, .inl (cR, 24, .inr (.inr (.inr (.inr ((fun _ => none))))))), (r1, .inl (cR, 24, .inr (.inr (.inr (.inr ((fun _ => none))))))), (mm, .inr (10, [.int 0, .int 9, .int t5, .int 99, .ref c2, .ref ps2, .ref pr, .int 0, .int 0, .int ((-1)), .ref l2, .long 0])), (ps2, .inr (3, [.int 0, .ref em, .int 0]))] := hD
  refine lv_iinc (v := 3) (lv' := [(2, .int 3), (1, .int 0), (0, .ref mm)]) hx hb dX6_forgets_38 hl (k := 0) rfl (by decide) (by decide) rfl (fun ls hl => ?_)
  refine lv_goto (tgt := 12) hx hb dX6_forgets_41 (by decide) ?_
  refine lv_iload_n hx hb dX6_forgets_12 rfl (lv_at hl 0 rfl) ?_
  refine lv_iconst (v := 2) hx hb dX6_forgets_13 (by decide) ?_
  refine lv_icmp_ge (tgt := 44) hx hb dX6_forgets_14 (by decide) (fun c9 => ?_) (fun c9 => absurd c9 (by decide))
  refine lv_iinc (v := 1) (lv' := [(1, .int 1), (2, .int 3), (0, .ref mm)]) hx hb dX6_forgets_44 hl (k := 1) rfl (by decide) (by decide) rfl (fun ls hl => ?_)
  refine lv_goto (tgt := 2) hx hb dX6_forgets_47 (by decide) ?_
  refine lv_iload_n hx hb dX6_forgets_2 rfl (lv_at hl 0 rfl) ?_
  refine lv_aload_n hx hb dX6_forgets_3 rfl (lv_at hl 2 rfl) ?_
  refine va_get (D := D) (ci := 10) (v := .int 9) (C := RX6) (T := TX6) (N := 12) hx hb hts hiRX6 hown hK hP 3 rfl rfl 1 (by decide) (hts (.fieldLink RX6 7 "TowerliftryModel" "top" "I") (by decide +kernel)) (fun _ h9 => h9) rfl dX6_forgets_4 ?_
  refine lv_icmp_gt (tgt := 50) hx hb dX6_forgets_7 (by decide) (fun c9 => absurd c9 (by decide)) (fun c9 => ?_)
  refine lv_iconst (v := (-1)) hx hb dX6_forgets_10 (by decide) ?_
  refine lv_istore_n (lv' := [(2, .int ((-1))), (1, .int 1), (0, .ref mm)]) hx hb dX6_forgets_11 rfl hl (by decide) rfl (fun ls hl => ?_)
  refine lv_iload_n hx hb dX6_forgets_12 rfl (lv_at hl 0 rfl) ?_
  refine lv_iconst (v := 2) hx hb dX6_forgets_13 (by decide) ?_
  refine lv_icmp_ge (tgt := 44) hx hb dX6_forgets_14 (by decide) (fun c9 => absurd c9 (by decide)) (fun c9 => ?_)
  refine lv_aload_n hx hb dX6_forgets_17 rfl (lv_at hl 2 rfl) ?_
  refine lv_iload_n hx hb dX6_forgets_18 rfl (lv_at hl 1 rfl) ?_
  refine lv_iload_n hx hb dX6_forgets_19 rfl (lv_at hl 0 rfl) ?_
  have hPc := hP.sub (ws' := [(mm, .inr (10, [.int 0, .int 9, .int t5, .int 99, .ref c2, .ref ps2, .ref pr, .int 0, .int 0, .int ((-1)), .ref l2, .long 0])), (ps2, .inr (3, [.int 0, .ref em, .int 0]))]) [3, 4] rfl
  have hDc := hD.sub (ws' := [(mm, .inr (10, [.int 0, .int 9, .int t5, .int 99, .ref c2, .ref ps2, .ref pr, .int 0, .int 0, .int ((-1)), .ref l2, .long 0])), (ps2, .inr (3, [.int 0, .ref em, .int 0]))]) [3, 4] (by decide) rfl
  have hKc := hK.sub (tys' := []) [] rfl
  have hFc := va_free (wc := [(mm, .inr (10, [.int 0, .int 9, .int t5, .int 99, .ref c2, .ref ps2, .ref pr, .int 0, .int 0, .int ((-1)), .ref l2, .long 0])), (ps2, .inr (3, [.int 0, .ref em, .int 0]))]) hD hS hA [3, 4] rfl
  refine va_calli (va_runV (As := [.int 1, .int ((-1))]) (rest := []) ⟨hx, hb, hml, hown, hts⟩ (c_X6_isCall l hst em kw kb D mm 1 ((-1)) t5 c2 ps2 pr l2 _) (cwV 2 hts gX6_forgets_X6_isCall rfl rfl rfl (by decide +kernel) ⟨(Nat.le_of_ble_eq_true rfl), (Nat.le_of_ble_eq_true rfl)⟩) (tw_preV hF hS hFc hPc hKc hDc (va_recv hKc hPc (ci := 10) (q0 := 0) rfl rfl)) rfl rfl hl.1 rfl (lv_room (Nat.le_of_ble_eq_true rfl)) dX6_forgets_20 ⟨(Nat.le_of_ble_eq_true rfl), (Nat.le_of_ble_eq_true rfl)⟩) hS (fun q _ h => hFc q h) hFc (fun r u t H locs ht hvm hw hB hz1 hk1 hS => ?_)
  obtain ⟨rfl, rfl⟩ := hw
  obtain ⟨hP, hD, hK⟩ := tw_join (wr := [(pr, .inl (cP, 2, .inr (.inr (.inr (.inr ((tw_two r0 r1))))))), (r0, .inl (cR, 24, .inr (.inr (.inr (.inr ((fun _ => none))))))), (r1, .inl (cR, 24, .inr (.inr (.inr (.inr ((fun _ => none)))))))]) hP hD hK [3, 4] [0, 1, 2] rfl rfl (by decide) (by decide) hk1 hFc ht hvm hB
  have hP : va_P D vwCl [(pr, .inl (cP, 2, .inr (.inr (.inr (.inr ((tw_two r0 r1))))))), (r0, .inl (cR, 24, .inr (.inr (.inr (.inr ((fun _ => none))))))), (r1, .inl (cR, 24, .inr (.inr (.inr (.inr ((fun _ => none))))))), (mm, .inr (10, [.int 0, .int 9, .int t5, .int 99, .ref c2, .ref ps2, .ref pr, .int 0, .int 0, .int ((-1)), .ref l2, .long 0])), (ps2, .inr (3, [.int 0, .ref em, .int 0]))] _ := hP
  have hD : va_D A [(pr, .inl (cP, 2, .inr (.inr (.inr (.inr ((tw_two r0 r1))))))), (r0, .inl (cR, 24, .inr (.inr (.inr (.inr ((fun _ => none))))))), (r1, .inl (cR, 24, .inr (.inr (.inr (.inr ((fun _ => none))))))), (mm, .inr (10, [.int 0, .int 9, .int t5, .int 99, .ref c2, .ref ps2, .ref pr, .int 0, .int 0, .int ((-1)), .ref l2, .long 0])), (ps2, .inr (3, [.int 0, .ref em, .int 0]))] := hD
  have hK : va_K D vwCl [(cP, .array (.object "TowerliftryModel$Car")), (cR, .object "TowerliftryModel$Car")] s := hK
  refine W.widen (k := 3) (n := 12) (Nat.le_refl _) (Nat.le_refl _) ?_
  refine W.eq (g2 := F0 m 23 ls [.int 0]) rfl ?_
  refine lv_if_ne (tgt := 38) hx hb dX6_forgets_23 (by decide) (fun c9 => absurd c9 (by decide)) (fun c9 => ?_)
  refine lv_aload_n hx hb dX6_forgets_26 rfl (lv_at hl 2 rfl) ?_
  refine va_get (D := D) (ci := 10) (v := .ref pr) (C := RX6) (T := TX6) (N := 12) hx hb hts hiRX6 hown hK hP 3 rfl rfl 6 (by decide) (hts (.fieldLink RX6 29 "TowerliftryModel" "promises" "[[LTowerliftryModel$Car;") (by decide +kernel)) (fun _ h9 => h9) rfl dX6_forgets_27 ?_
  refine lv_iload_n hx hb dX6_forgets_30 rfl (lv_at hl 0 rfl) ?_
  have hPc := hP.sub (ws' := []) [] rfl
  have hDc := hD.sub (ws' := []) [] (by decide) rfl
  have hKc := hK.sub (tys' := []) [] rfl
  have hFc := va_free (wc := []) hD hS hA [] rfl
  refine va_calli (va_runS (As := [.int ((-1))]) (rest := [.ref pr]) ⟨hx, hb, hml, hown, hts⟩ (c_X6_rowd l hst em kw kb D  _) (va_cwS 1 hts gX6_forgets_X6_row rfl rfl rfl (by decide +kernel) ⟨(Nat.le_of_ble_eq_true rfl), (Nat.le_of_ble_eq_true rfl)⟩) (tw_preS hF hS hFc hPc hKc hDc) rfl rfl hl.1 rfl (lv_room (Nat.le_of_ble_eq_true rfl)) dX6_forgets_31 ⟨(Nat.le_of_ble_eq_true rfl), (Nat.le_of_ble_eq_true rfl)⟩) hS (fun q _ h => hFc q h) hFc (fun r u t H locs ht hvm hw hB hz1 hk1 hS => ?_)
  obtain ⟨rfl, rfl⟩ := hw
  obtain ⟨hP, hD, hK⟩ := tw_join (wr := [(pr, .inl (cP, 2, .inr (.inr (.inr (.inr ((tw_two r0 r1))))))), (r0, .inl (cR, 24, .inr (.inr (.inr (.inr ((fun _ => none))))))), (r1, .inl (cR, 24, .inr (.inr (.inr (.inr ((fun _ => none))))))), (mm, .inr (10, [.int 0, .int 9, .int t5, .int 99, .ref c2, .ref ps2, .ref pr, .int 0, .int 0, .int ((-1)), .ref l2, .long 0])), (ps2, .inr (3, [.int 0, .ref em, .int 0]))]) hP hD hK [] [0, 1, 2, 3, 4] rfl rfl (by decide) (by decide) hk1 hFc ht hvm hB
  have hP : va_P D vwCl [(pr, .inl (cP, 2, .inr (.inr (.inr (.inr ((tw_two r0 r1))))))), (r0, .inl (cR, 24, .inr (.inr (.inr (.inr ((fun _ => none))))))), (r1, .inl (cR, 24, .inr (.inr (.inr (.inr ((fun _ => none))))))), (mm, .inr (10, [.int 0, .int 9, .int t5, .int 99, .ref c2, .ref ps2, .ref pr, .int 0, .int 0, .int ((-1)), .ref l2, .long 0])), (ps2, .inr (3, [.int 0, .ref em, .int 0]))] _ := hP
  have hD : va_D A [(pr, .inl (cP, 2, .inr (.inr (.inr (.inr ((tw_two r0 r1))))))), (r0, .inl (cR, 24, .inr (.inr (.inr (.inr ((fun _ => none))))))), (r1, .inl (cR, 24, .inr (.inr (.inr (.inr ((fun _ => none))))))), (mm, .inr (10, [.int 0, .int 9, .int t5, .int 99, .ref c2, .ref ps2, .ref pr, .int 0, .int 0, .int ((-1)), .ref l2, .long 0])), (ps2, .inr (3, [.int 0, .ref em, .int 0]))] := hD
  have hK : va_K D vwCl [(cP, .array (.object "TowerliftryModel$Car")), (cR, .object "TowerliftryModel$Car")] s := hK
  refine W.widen (k := 3) (n := 12) (Nat.le_refl _) (Nat.le_refl _) ?_
  refine W.eq (g2 := F0 m 34 ls [.int 0, .ref pr]) rfl ?_
  refine tw_aldA hx hb hK hP 0 0 rfl rfl (by unfold vp_in; decide) dX6_forgets_34 ?_
  rw [tw_two0]
  refine W.eq (g2 := F0 m 35 ls [.ref r0]) rfl ?_
  refine lv_iload_n hx hb dX6_forgets_35 rfl (lv_at hl 1 rfl) ?_
  refine lv_null hx hb dX6_forgets_36 ?_
  refine va_astqN hx hb hK hP hD hS 1 1 rfl rfl (by unfold vp_in; decide) dX6_forgets_37 (fun H locs hP hD hS => ?_)
  have hP : va_P D vwCl [(pr, .inl (cP, 2, .inr (.inr (.inr (.inr ((tw_two r0 r1))))))), (r0, .inl (cR, 24, .inr (.inr (.inr (.inr (va_up ((fun _ => none)) (1 : Int32).toNatClampNeg none)))))), (r1, .inl (cR, 24, .inr (.inr (.inr (.inr ((fun _ => none))))))), (mm, .inr (10, [.int 0, .int 9, .int t5, .int 99, .ref c2, .ref ps2, .ref pr, .int 0, .int 0, .int ((-1)), .ref l2, .long 0])), (ps2, .inr (3, [.int 0, .ref em, .int 0]))] _ := hP
  have hD : va_D A [(pr, .inl (cP, 2, .inr (.inr (.inr (.inr ((tw_two r0 r1))))))), (r0, .inl (cR, 24, .inr (.inr (.inr (.inr (va_up ((fun _ => none)) (1 : Int32).toNatClampNeg none)))))), (r1, .inl (cR, 24, .inr (.inr (.inr (.inr ((fun _ => none))))))), (mm, .inr (10, [.int 0, .int 9, .int t5, .int 99, .ref c2, .ref ps2, .ref pr, .int 0, .int 0, .int ((-1)), .ref l2, .long 0])), (ps2, .inr (3, [.int 0, .ref em, .int 0]))] := hD
  rw [tw_upn] at hP hD
  have hP : va_P D vwCl [(pr, .inl (cP, 2, .inr (.inr (.inr (.inr ((tw_two r0 r1))))))), (r0, .inl (cR, 24, .inr (.inr (.inr (.inr ((fun _ => none))))))), (r1, .inl (cR, 24, .inr (.inr (.inr (.inr ((fun _ => none))))))), (mm, .inr (10, [.int 0, .int 9, .int t5, .int 99, .ref c2, .ref ps2, .ref pr, .int 0, .int 0, .int ((-1)), .ref l2, .long 0])), (ps2, .inr (3, [.int 0, .ref em, .int 0]))] _ := hP
  have hD : va_D A [(pr, .inl (cP, 2, .inr (.inr (.inr (.inr ((tw_two r0 r1))))))), (r0, .inl (cR, 24, .inr (.inr (.inr (.inr ((fun _ => none))))))), (r1, .inl (cR, 24, .inr (.inr (.inr (.inr ((fun _ => none))))))), (mm, .inr (10, [.int 0, .int 9, .int t5, .int 99, .ref c2, .ref ps2, .ref pr, .int 0, .int 0, .int ((-1)), .ref l2, .long 0])), (ps2, .inr (3, [.int 0, .ref em, .int 0]))] := hD
  refine lv_iinc (v := 1) (lv' := [(2, .int 1), (1, .int 1), (0, .ref mm)]) hx hb dX6_forgets_38 hl (k := 0) rfl (by decide) (by decide) rfl (fun ls hl => ?_)
  refine lv_goto (tgt := 12) hx hb dX6_forgets_41 (by decide) ?_
  refine lv_iload_n hx hb dX6_forgets_12 rfl (lv_at hl 0 rfl) ?_
  refine lv_iconst (v := 2) hx hb dX6_forgets_13 (by decide) ?_
  refine lv_icmp_ge (tgt := 44) hx hb dX6_forgets_14 (by decide) (fun c9 => absurd c9 (by decide)) (fun c9 => ?_)
  refine lv_aload_n hx hb dX6_forgets_17 rfl (lv_at hl 2 rfl) ?_
  refine lv_iload_n hx hb dX6_forgets_18 rfl (lv_at hl 1 rfl) ?_
  refine lv_iload_n hx hb dX6_forgets_19 rfl (lv_at hl 0 rfl) ?_
  have hPc := hP.sub (ws' := [(mm, .inr (10, [.int 0, .int 9, .int t5, .int 99, .ref c2, .ref ps2, .ref pr, .int 0, .int 0, .int ((-1)), .ref l2, .long 0])), (ps2, .inr (3, [.int 0, .ref em, .int 0]))]) [3, 4] rfl
  have hDc := hD.sub (ws' := [(mm, .inr (10, [.int 0, .int 9, .int t5, .int 99, .ref c2, .ref ps2, .ref pr, .int 0, .int 0, .int ((-1)), .ref l2, .long 0])), (ps2, .inr (3, [.int 0, .ref em, .int 0]))]) [3, 4] (by decide) rfl
  have hKc := hK.sub (tys' := []) [] rfl
  have hFc := va_free (wc := [(mm, .inr (10, [.int 0, .int 9, .int t5, .int 99, .ref c2, .ref ps2, .ref pr, .int 0, .int 0, .int ((-1)), .ref l2, .long 0])), (ps2, .inr (3, [.int 0, .ref em, .int 0]))]) hD hS hA [3, 4] rfl
  refine va_calli (va_runV (As := [.int 1, .int 1]) (rest := []) ⟨hx, hb, hml, hown, hts⟩ (c_X6_isCall l hst em kw kb D mm 1 1 t5 c2 ps2 pr l2 _) (cwV 2 hts gX6_forgets_X6_isCall rfl rfl rfl (by decide +kernel) ⟨(Nat.le_of_ble_eq_true rfl), (Nat.le_of_ble_eq_true rfl)⟩) (tw_preV hF hS hFc hPc hKc hDc (va_recv hKc hPc (ci := 10) (q0 := 0) rfl rfl)) rfl rfl hl.1 rfl (lv_room (Nat.le_of_ble_eq_true rfl)) dX6_forgets_20 ⟨(Nat.le_of_ble_eq_true rfl), (Nat.le_of_ble_eq_true rfl)⟩) hS (fun q _ h => hFc q h) hFc (fun r u t H locs ht hvm hw hB hz1 hk1 hS => ?_)
  obtain ⟨rfl, rfl⟩ := hw
  obtain ⟨hP, hD, hK⟩ := tw_join (wr := [(pr, .inl (cP, 2, .inr (.inr (.inr (.inr ((tw_two r0 r1))))))), (r0, .inl (cR, 24, .inr (.inr (.inr (.inr ((fun _ => none))))))), (r1, .inl (cR, 24, .inr (.inr (.inr (.inr ((fun _ => none)))))))]) hP hD hK [3, 4] [0, 1, 2] rfl rfl (by decide) (by decide) hk1 hFc ht hvm hB
  have hP : va_P D vwCl [(pr, .inl (cP, 2, .inr (.inr (.inr (.inr ((tw_two r0 r1))))))), (r0, .inl (cR, 24, .inr (.inr (.inr (.inr ((fun _ => none))))))), (r1, .inl (cR, 24, .inr (.inr (.inr (.inr ((fun _ => none))))))), (mm, .inr (10, [.int 0, .int 9, .int t5, .int 99, .ref c2, .ref ps2, .ref pr, .int 0, .int 0, .int ((-1)), .ref l2, .long 0])), (ps2, .inr (3, [.int 0, .ref em, .int 0]))] _ := hP
  have hD : va_D A [(pr, .inl (cP, 2, .inr (.inr (.inr (.inr ((tw_two r0 r1))))))), (r0, .inl (cR, 24, .inr (.inr (.inr (.inr ((fun _ => none))))))), (r1, .inl (cR, 24, .inr (.inr (.inr (.inr ((fun _ => none))))))), (mm, .inr (10, [.int 0, .int 9, .int t5, .int 99, .ref c2, .ref ps2, .ref pr, .int 0, .int 0, .int ((-1)), .ref l2, .long 0])), (ps2, .inr (3, [.int 0, .ref em, .int 0]))] := hD
  have hK : va_K D vwCl [(cP, .array (.object "TowerliftryModel$Car")), (cR, .object "TowerliftryModel$Car")] s := hK
  refine W.widen (k := 4) (n := 16) (Nat.le_refl _) (Nat.le_refl _) ?_
  refine W.eq (g2 := F0 m 23 ls [.int 0]) rfl ?_
  refine lv_if_ne (tgt := 38) hx hb dX6_forgets_23 (by decide) (fun c9 => absurd c9 (by decide)) (fun c9 => ?_)
  refine lv_aload_n hx hb dX6_forgets_26 rfl (lv_at hl 2 rfl) ?_
  refine va_get (D := D) (ci := 10) (v := .ref pr) (C := RX6) (T := TX6) (N := 12) hx hb hts hiRX6 hown hK hP 3 rfl rfl 6 (by decide) (hts (.fieldLink RX6 29 "TowerliftryModel" "promises" "[[LTowerliftryModel$Car;") (by decide +kernel)) (fun _ h9 => h9) rfl dX6_forgets_27 ?_
  refine lv_iload_n hx hb dX6_forgets_30 rfl (lv_at hl 0 rfl) ?_
  have hPc := hP.sub (ws' := []) [] rfl
  have hDc := hD.sub (ws' := []) [] (by decide) rfl
  have hKc := hK.sub (tys' := []) [] rfl
  have hFc := va_free (wc := []) hD hS hA [] rfl
  refine va_calli (va_runS (As := [.int 1]) (rest := [.ref pr]) ⟨hx, hb, hml, hown, hts⟩ (c_X6_rowu l hst em kw kb D  _) (va_cwS 1 hts gX6_forgets_X6_row rfl rfl rfl (by decide +kernel) ⟨(Nat.le_of_ble_eq_true rfl), (Nat.le_of_ble_eq_true rfl)⟩) (tw_preS hF hS hFc hPc hKc hDc) rfl rfl hl.1 rfl (lv_room (Nat.le_of_ble_eq_true rfl)) dX6_forgets_31 ⟨(Nat.le_of_ble_eq_true rfl), (Nat.le_of_ble_eq_true rfl)⟩) hS (fun q _ h => hFc q h) hFc (fun r u t H locs ht hvm hw hB hz1 hk1 hS => ?_)
  obtain ⟨rfl, rfl⟩ := hw
  obtain ⟨hP, hD, hK⟩ := tw_join (wr := [(pr, .inl (cP, 2, .inr (.inr (.inr (.inr ((tw_two r0 r1))))))), (r0, .inl (cR, 24, .inr (.inr (.inr (.inr ((fun _ => none))))))), (r1, .inl (cR, 24, .inr (.inr (.inr (.inr ((fun _ => none))))))), (mm, .inr (10, [.int 0, .int 9, .int t5, .int 99, .ref c2, .ref ps2, .ref pr, .int 0, .int 0, .int ((-1)), .ref l2, .long 0])), (ps2, .inr (3, [.int 0, .ref em, .int 0]))]) hP hD hK [] [0, 1, 2, 3, 4] rfl rfl (by decide) (by decide) hk1 hFc ht hvm hB
  have hP : va_P D vwCl [(pr, .inl (cP, 2, .inr (.inr (.inr (.inr ((tw_two r0 r1))))))), (r0, .inl (cR, 24, .inr (.inr (.inr (.inr ((fun _ => none))))))), (r1, .inl (cR, 24, .inr (.inr (.inr (.inr ((fun _ => none))))))), (mm, .inr (10, [.int 0, .int 9, .int t5, .int 99, .ref c2, .ref ps2, .ref pr, .int 0, .int 0, .int ((-1)), .ref l2, .long 0])), (ps2, .inr (3, [.int 0, .ref em, .int 0]))] _ := hP
  have hD : va_D A [(pr, .inl (cP, 2, .inr (.inr (.inr (.inr ((tw_two r0 r1))))))), (r0, .inl (cR, 24, .inr (.inr (.inr (.inr ((fun _ => none))))))), (r1, .inl (cR, 24, .inr (.inr (.inr (.inr ((fun _ => none))))))), (mm, .inr (10, [.int 0, .int 9, .int t5, .int 99, .ref c2, .ref ps2, .ref pr, .int 0, .int 0, .int ((-1)), .ref l2, .long 0])), (ps2, .inr (3, [.int 0, .ref em, .int 0]))] := hD
  have hK : va_K D vwCl [(cP, .array (.object "TowerliftryModel$Car")), (cR, .object "TowerliftryModel$Car")] s := hK
  refine W.widen (k := 4) (n := 16) (Nat.le_refl _) (Nat.le_refl _) ?_
  refine W.eq (g2 := F0 m 34 ls [.int 1, .ref pr]) rfl ?_
  refine tw_aldA hx hb hK hP 0 0 rfl rfl (by unfold vp_in; decide) dX6_forgets_34 ?_
  rw [tw_two1]
  refine W.eq (g2 := F0 m 35 ls [.ref r1]) rfl ?_
  refine lv_iload_n hx hb dX6_forgets_35 rfl (lv_at hl 1 rfl) ?_
  refine lv_null hx hb dX6_forgets_36 ?_
  refine va_astqN hx hb hK hP hD hS 2 1 rfl rfl (by unfold vp_in; decide) dX6_forgets_37 (fun H locs hP hD hS => ?_)
  have hP : va_P D vwCl [(pr, .inl (cP, 2, .inr (.inr (.inr (.inr ((tw_two r0 r1))))))), (r0, .inl (cR, 24, .inr (.inr (.inr (.inr ((fun _ => none))))))), (r1, .inl (cR, 24, .inr (.inr (.inr (.inr (va_up ((fun _ => none)) (1 : Int32).toNatClampNeg none)))))), (mm, .inr (10, [.int 0, .int 9, .int t5, .int 99, .ref c2, .ref ps2, .ref pr, .int 0, .int 0, .int ((-1)), .ref l2, .long 0])), (ps2, .inr (3, [.int 0, .ref em, .int 0]))] _ := hP
  have hD : va_D A [(pr, .inl (cP, 2, .inr (.inr (.inr (.inr ((tw_two r0 r1))))))), (r0, .inl (cR, 24, .inr (.inr (.inr (.inr ((fun _ => none))))))), (r1, .inl (cR, 24, .inr (.inr (.inr (.inr (va_up ((fun _ => none)) (1 : Int32).toNatClampNeg none)))))), (mm, .inr (10, [.int 0, .int 9, .int t5, .int 99, .ref c2, .ref ps2, .ref pr, .int 0, .int 0, .int ((-1)), .ref l2, .long 0])), (ps2, .inr (3, [.int 0, .ref em, .int 0]))] := hD
  rw [tw_upn] at hP hD
  have hP : va_P D vwCl [(pr, .inl (cP, 2, .inr (.inr (.inr (.inr ((tw_two r0 r1))))))), (r0, .inl (cR, 24, .inr (.inr (.inr (.inr ((fun _ => none))))))), (r1, .inl (cR, 24, .inr (.inr (.inr (.inr ((fun _ => none))))))), (mm, .inr (10, [.int 0, .int 9, .int t5, .int 99, .ref c2, .ref ps2, .ref pr, .int 0, .int 0, .int ((-1)), .ref l2, .long 0])), (ps2, .inr (3, [.int 0, .ref em, .int 0]))] _ := hP
  have hD : va_D A [(pr, .inl (cP, 2, .inr (.inr (.inr (.inr ((tw_two r0 r1))))))), (r0, .inl (cR, 24, .inr (.inr (.inr (.inr ((fun _ => none))))))), (r1, .inl (cR, 24, .inr (.inr (.inr (.inr ((fun _ => none))))))), (mm, .inr (10, [.int 0, .int 9, .int t5, .int 99, .ref c2, .ref ps2, .ref pr, .int 0, .int 0, .int ((-1)), .ref l2, .long 0])), (ps2, .inr (3, [.int 0, .ref em, .int 0]))] := hD
  refine lv_iinc (v := 3) (lv' := [(2, .int 3), (1, .int 1), (0, .ref mm)]) hx hb dX6_forgets_38 hl (k := 0) rfl (by decide) (by decide) rfl (fun ls hl => ?_)
  refine lv_goto (tgt := 12) hx hb dX6_forgets_41 (by decide) ?_
  refine lv_iload_n hx hb dX6_forgets_12 rfl (lv_at hl 0 rfl) ?_
  refine lv_iconst (v := 2) hx hb dX6_forgets_13 (by decide) ?_
  refine lv_icmp_ge (tgt := 44) hx hb dX6_forgets_14 (by decide) (fun c9 => ?_) (fun c9 => absurd c9 (by decide))
  refine lv_iinc (v := 2) (lv' := [(1, .int 2), (2, .int 3), (0, .ref mm)]) hx hb dX6_forgets_44 hl (k := 1) rfl (by decide) (by decide) rfl (fun ls hl => ?_)
  refine lv_goto (tgt := 2) hx hb dX6_forgets_47 (by decide) ?_
  refine lv_iload_n hx hb dX6_forgets_2 rfl (lv_at hl 0 rfl) ?_
  refine lv_aload_n hx hb dX6_forgets_3 rfl (lv_at hl 2 rfl) ?_
  refine va_get (D := D) (ci := 10) (v := .int 9) (C := RX6) (T := TX6) (N := 12) hx hb hts hiRX6 hown hK hP 3 rfl rfl 1 (by decide) (hts (.fieldLink RX6 7 "TowerliftryModel" "top" "I") (by decide +kernel)) (fun _ h9 => h9) rfl dX6_forgets_4 ?_
  refine lv_icmp_gt (tgt := 50) hx hb dX6_forgets_7 (by decide) (fun c9 => absurd c9 (by decide)) (fun c9 => ?_)
  refine lv_iconst (v := (-1)) hx hb dX6_forgets_10 (by decide) ?_
  refine lv_istore_n (lv' := [(2, .int ((-1))), (1, .int 2), (0, .ref mm)]) hx hb dX6_forgets_11 rfl hl (by decide) rfl (fun ls hl => ?_)
  refine lv_iload_n hx hb dX6_forgets_12 rfl (lv_at hl 0 rfl) ?_
  refine lv_iconst (v := 2) hx hb dX6_forgets_13 (by decide) ?_
  refine lv_icmp_ge (tgt := 44) hx hb dX6_forgets_14 (by decide) (fun c9 => absurd c9 (by decide)) (fun c9 => ?_)
  refine lv_aload_n hx hb dX6_forgets_17 rfl (lv_at hl 2 rfl) ?_
  refine lv_iload_n hx hb dX6_forgets_18 rfl (lv_at hl 1 rfl) ?_
  refine lv_iload_n hx hb dX6_forgets_19 rfl (lv_at hl 0 rfl) ?_
  have hPc := hP.sub (ws' := [(mm, .inr (10, [.int 0, .int 9, .int t5, .int 99, .ref c2, .ref ps2, .ref pr, .int 0, .int 0, .int ((-1)), .ref l2, .long 0])), (ps2, .inr (3, [.int 0, .ref em, .int 0]))]) [3, 4] rfl
  have hDc := hD.sub (ws' := [(mm, .inr (10, [.int 0, .int 9, .int t5, .int 99, .ref c2, .ref ps2, .ref pr, .int 0, .int 0, .int ((-1)), .ref l2, .long 0])), (ps2, .inr (3, [.int 0, .ref em, .int 0]))]) [3, 4] (by decide) rfl
  have hKc := hK.sub (tys' := []) [] rfl
  have hFc := va_free (wc := [(mm, .inr (10, [.int 0, .int 9, .int t5, .int 99, .ref c2, .ref ps2, .ref pr, .int 0, .int 0, .int ((-1)), .ref l2, .long 0])), (ps2, .inr (3, [.int 0, .ref em, .int 0]))]) hD hS hA [3, 4] rfl
  refine va_calli (va_runV (As := [.int 2, .int ((-1))]) (rest := []) ⟨hx, hb, hml, hown, hts⟩ (c_X6_isCall l hst em kw kb D mm 2 ((-1)) t5 c2 ps2 pr l2 _) (cwV 2 hts gX6_forgets_X6_isCall rfl rfl rfl (by decide +kernel) ⟨(Nat.le_of_ble_eq_true rfl), (Nat.le_of_ble_eq_true rfl)⟩) (tw_preV hF hS hFc hPc hKc hDc (va_recv hKc hPc (ci := 10) (q0 := 0) rfl rfl)) rfl rfl hl.1 rfl (lv_room (Nat.le_of_ble_eq_true rfl)) dX6_forgets_20 ⟨(Nat.le_of_ble_eq_true rfl), (Nat.le_of_ble_eq_true rfl)⟩) hS (fun q _ h => hFc q h) hFc (fun r u t H locs ht hvm hw hB hz1 hk1 hS => ?_)
  obtain ⟨rfl, rfl⟩ := hw
  obtain ⟨hP, hD, hK⟩ := tw_join (wr := [(pr, .inl (cP, 2, .inr (.inr (.inr (.inr ((tw_two r0 r1))))))), (r0, .inl (cR, 24, .inr (.inr (.inr (.inr ((fun _ => none))))))), (r1, .inl (cR, 24, .inr (.inr (.inr (.inr ((fun _ => none)))))))]) hP hD hK [3, 4] [0, 1, 2] rfl rfl (by decide) (by decide) hk1 hFc ht hvm hB
  have hP : va_P D vwCl [(pr, .inl (cP, 2, .inr (.inr (.inr (.inr ((tw_two r0 r1))))))), (r0, .inl (cR, 24, .inr (.inr (.inr (.inr ((fun _ => none))))))), (r1, .inl (cR, 24, .inr (.inr (.inr (.inr ((fun _ => none))))))), (mm, .inr (10, [.int 0, .int 9, .int t5, .int 99, .ref c2, .ref ps2, .ref pr, .int 0, .int 0, .int ((-1)), .ref l2, .long 0])), (ps2, .inr (3, [.int 0, .ref em, .int 0]))] _ := hP
  have hD : va_D A [(pr, .inl (cP, 2, .inr (.inr (.inr (.inr ((tw_two r0 r1))))))), (r0, .inl (cR, 24, .inr (.inr (.inr (.inr ((fun _ => none))))))), (r1, .inl (cR, 24, .inr (.inr (.inr (.inr ((fun _ => none))))))), (mm, .inr (10, [.int 0, .int 9, .int t5, .int 99, .ref c2, .ref ps2, .ref pr, .int 0, .int 0, .int ((-1)), .ref l2, .long 0])), (ps2, .inr (3, [.int 0, .ref em, .int 0]))] := hD
  have hK : va_K D vwCl [(cP, .array (.object "TowerliftryModel$Car")), (cR, .object "TowerliftryModel$Car")] s := hK
  refine W.widen (k := 5) (n := 20) (Nat.le_refl _) (Nat.le_refl _) ?_
  refine W.eq (g2 := F0 m 23 ls [.int 0]) rfl ?_
  refine lv_if_ne (tgt := 38) hx hb dX6_forgets_23 (by decide) (fun c9 => absurd c9 (by decide)) (fun c9 => ?_)
  refine lv_aload_n hx hb dX6_forgets_26 rfl (lv_at hl 2 rfl) ?_
  refine va_get (D := D) (ci := 10) (v := .ref pr) (C := RX6) (T := TX6) (N := 12) hx hb hts hiRX6 hown hK hP 3 rfl rfl 6 (by decide) (hts (.fieldLink RX6 29 "TowerliftryModel" "promises" "[[LTowerliftryModel$Car;") (by decide +kernel)) (fun _ h9 => h9) rfl dX6_forgets_27 ?_
  refine lv_iload_n hx hb dX6_forgets_30 rfl (lv_at hl 0 rfl) ?_
  have hPc := hP.sub (ws' := []) [] rfl
  have hDc := hD.sub (ws' := []) [] (by decide) rfl
  have hKc := hK.sub (tys' := []) [] rfl
  have hFc := va_free (wc := []) hD hS hA [] rfl
  refine va_calli (va_runS (As := [.int ((-1))]) (rest := [.ref pr]) ⟨hx, hb, hml, hown, hts⟩ (c_X6_rowd l hst em kw kb D  _) (va_cwS 1 hts gX6_forgets_X6_row rfl rfl rfl (by decide +kernel) ⟨(Nat.le_of_ble_eq_true rfl), (Nat.le_of_ble_eq_true rfl)⟩) (tw_preS hF hS hFc hPc hKc hDc) rfl rfl hl.1 rfl (lv_room (Nat.le_of_ble_eq_true rfl)) dX6_forgets_31 ⟨(Nat.le_of_ble_eq_true rfl), (Nat.le_of_ble_eq_true rfl)⟩) hS (fun q _ h => hFc q h) hFc (fun r u t H locs ht hvm hw hB hz1 hk1 hS => ?_)
  obtain ⟨rfl, rfl⟩ := hw
  obtain ⟨hP, hD, hK⟩ := tw_join (wr := [(pr, .inl (cP, 2, .inr (.inr (.inr (.inr ((tw_two r0 r1))))))), (r0, .inl (cR, 24, .inr (.inr (.inr (.inr ((fun _ => none))))))), (r1, .inl (cR, 24, .inr (.inr (.inr (.inr ((fun _ => none))))))), (mm, .inr (10, [.int 0, .int 9, .int t5, .int 99, .ref c2, .ref ps2, .ref pr, .int 0, .int 0, .int ((-1)), .ref l2, .long 0])), (ps2, .inr (3, [.int 0, .ref em, .int 0]))]) hP hD hK [] [0, 1, 2, 3, 4] rfl rfl (by decide) (by decide) hk1 hFc ht hvm hB
  have hP : va_P D vwCl [(pr, .inl (cP, 2, .inr (.inr (.inr (.inr ((tw_two r0 r1))))))), (r0, .inl (cR, 24, .inr (.inr (.inr (.inr ((fun _ => none))))))), (r1, .inl (cR, 24, .inr (.inr (.inr (.inr ((fun _ => none))))))), (mm, .inr (10, [.int 0, .int 9, .int t5, .int 99, .ref c2, .ref ps2, .ref pr, .int 0, .int 0, .int ((-1)), .ref l2, .long 0])), (ps2, .inr (3, [.int 0, .ref em, .int 0]))] _ := hP
  have hD : va_D A [(pr, .inl (cP, 2, .inr (.inr (.inr (.inr ((tw_two r0 r1))))))), (r0, .inl (cR, 24, .inr (.inr (.inr (.inr ((fun _ => none))))))), (r1, .inl (cR, 24, .inr (.inr (.inr (.inr ((fun _ => none))))))), (mm, .inr (10, [.int 0, .int 9, .int t5, .int 99, .ref c2, .ref ps2, .ref pr, .int 0, .int 0, .int ((-1)), .ref l2, .long 0])), (ps2, .inr (3, [.int 0, .ref em, .int 0]))] := hD
  have hK : va_K D vwCl [(cP, .array (.object "TowerliftryModel$Car")), (cR, .object "TowerliftryModel$Car")] s := hK
  refine W.widen (k := 5) (n := 20) (Nat.le_refl _) (Nat.le_refl _) ?_
  refine W.eq (g2 := F0 m 34 ls [.int 0, .ref pr]) rfl ?_
  refine tw_aldA hx hb hK hP 0 0 rfl rfl (by unfold vp_in; decide) dX6_forgets_34 ?_
  rw [tw_two0]
  refine W.eq (g2 := F0 m 35 ls [.ref r0]) rfl ?_
  refine lv_iload_n hx hb dX6_forgets_35 rfl (lv_at hl 1 rfl) ?_
  refine lv_null hx hb dX6_forgets_36 ?_
  refine va_astqN hx hb hK hP hD hS 1 1 rfl rfl (by unfold vp_in; decide) dX6_forgets_37 (fun H locs hP hD hS => ?_)
  have hP : va_P D vwCl [(pr, .inl (cP, 2, .inr (.inr (.inr (.inr ((tw_two r0 r1))))))), (r0, .inl (cR, 24, .inr (.inr (.inr (.inr (va_up ((fun _ => none)) (2 : Int32).toNatClampNeg none)))))), (r1, .inl (cR, 24, .inr (.inr (.inr (.inr ((fun _ => none))))))), (mm, .inr (10, [.int 0, .int 9, .int t5, .int 99, .ref c2, .ref ps2, .ref pr, .int 0, .int 0, .int ((-1)), .ref l2, .long 0])), (ps2, .inr (3, [.int 0, .ref em, .int 0]))] _ := hP
  have hD : va_D A [(pr, .inl (cP, 2, .inr (.inr (.inr (.inr ((tw_two r0 r1))))))), (r0, .inl (cR, 24, .inr (.inr (.inr (.inr (va_up ((fun _ => none)) (2 : Int32).toNatClampNeg none)))))), (r1, .inl (cR, 24, .inr (.inr (.inr (.inr ((fun _ => none))))))), (mm, .inr (10, [.int 0, .int 9, .int t5, .int 99, .ref c2, .ref ps2, .ref pr, .int 0, .int 0, .int ((-1)), .ref l2, .long 0])), (ps2, .inr (3, [.int 0, .ref em, .int 0]))] := hD
  rw [tw_upn] at hP hD
  have hP : va_P D vwCl [(pr, .inl (cP, 2, .inr (.inr (.inr (.inr ((tw_two r0 r1))))))), (r0, .inl (cR, 24, .inr (.inr (.inr (.inr ((fun _ => none))))))), (r1, .inl (cR, 24, .inr (.inr (.inr (.inr ((fun _ => none))))))), (mm, .inr (10, [.int 0, .int 9, .int t5, .int 99, .ref c2, .ref ps2, .ref pr, .int 0, .int 0, .int ((-1)), .ref l2, .long 0])), (ps2, .inr (3, [.int 0, .ref em, .int 0]))] _ := hP
  have hD : va_D A [(pr, .inl (cP, 2, .inr (.inr (.inr (.inr ((tw_two r0 r1))))))), (r0, .inl (cR, 24, .inr (.inr (.inr (.inr ((fun _ => none))))))), (r1, .inl (cR, 24, .inr (.inr (.inr (.inr ((fun _ => none))))))), (mm, .inr (10, [.int 0, .int 9, .int t5, .int 99, .ref c2, .ref ps2, .ref pr, .int 0, .int 0, .int ((-1)), .ref l2, .long 0])), (ps2, .inr (3, [.int 0, .ref em, .int 0]))] := hD
  refine lv_iinc (v := 1) (lv' := [(2, .int 1), (1, .int 2), (0, .ref mm)]) hx hb dX6_forgets_38 hl (k := 0) rfl (by decide) (by decide) rfl (fun ls hl => ?_)
  refine lv_goto (tgt := 12) hx hb dX6_forgets_41 (by decide) ?_
  refine lv_iload_n hx hb dX6_forgets_12 rfl (lv_at hl 0 rfl) ?_
  refine lv_iconst (v := 2) hx hb dX6_forgets_13 (by decide) ?_
  refine lv_icmp_ge (tgt := 44) hx hb dX6_forgets_14 (by decide) (fun c9 => absurd c9 (by decide)) (fun c9 => ?_)
  refine lv_aload_n hx hb dX6_forgets_17 rfl (lv_at hl 2 rfl) ?_
  refine lv_iload_n hx hb dX6_forgets_18 rfl (lv_at hl 1 rfl) ?_
  refine lv_iload_n hx hb dX6_forgets_19 rfl (lv_at hl 0 rfl) ?_
  have hPc := hP.sub (ws' := [(mm, .inr (10, [.int 0, .int 9, .int t5, .int 99, .ref c2, .ref ps2, .ref pr, .int 0, .int 0, .int ((-1)), .ref l2, .long 0])), (ps2, .inr (3, [.int 0, .ref em, .int 0]))]) [3, 4] rfl
  have hDc := hD.sub (ws' := [(mm, .inr (10, [.int 0, .int 9, .int t5, .int 99, .ref c2, .ref ps2, .ref pr, .int 0, .int 0, .int ((-1)), .ref l2, .long 0])), (ps2, .inr (3, [.int 0, .ref em, .int 0]))]) [3, 4] (by decide) rfl
  have hKc := hK.sub (tys' := []) [] rfl
  have hFc := va_free (wc := [(mm, .inr (10, [.int 0, .int 9, .int t5, .int 99, .ref c2, .ref ps2, .ref pr, .int 0, .int 0, .int ((-1)), .ref l2, .long 0])), (ps2, .inr (3, [.int 0, .ref em, .int 0]))]) hD hS hA [3, 4] rfl
  refine va_calli (va_runV (As := [.int 2, .int 1]) (rest := []) ⟨hx, hb, hml, hown, hts⟩ (c_X6_isCall l hst em kw kb D mm 2 1 t5 c2 ps2 pr l2 _) (cwV 2 hts gX6_forgets_X6_isCall rfl rfl rfl (by decide +kernel) ⟨(Nat.le_of_ble_eq_true rfl), (Nat.le_of_ble_eq_true rfl)⟩) (tw_preV hF hS hFc hPc hKc hDc (va_recv hKc hPc (ci := 10) (q0 := 0) rfl rfl)) rfl rfl hl.1 rfl (lv_room (Nat.le_of_ble_eq_true rfl)) dX6_forgets_20 ⟨(Nat.le_of_ble_eq_true rfl), (Nat.le_of_ble_eq_true rfl)⟩) hS (fun q _ h => hFc q h) hFc (fun r u t H locs ht hvm hw hB hz1 hk1 hS => ?_)
  obtain ⟨rfl, rfl⟩ := hw
  obtain ⟨hP, hD, hK⟩ := tw_join (wr := [(pr, .inl (cP, 2, .inr (.inr (.inr (.inr ((tw_two r0 r1))))))), (r0, .inl (cR, 24, .inr (.inr (.inr (.inr ((fun _ => none))))))), (r1, .inl (cR, 24, .inr (.inr (.inr (.inr ((fun _ => none)))))))]) hP hD hK [3, 4] [0, 1, 2] rfl rfl (by decide) (by decide) hk1 hFc ht hvm hB
  have hP : va_P D vwCl [(pr, .inl (cP, 2, .inr (.inr (.inr (.inr ((tw_two r0 r1))))))), (r0, .inl (cR, 24, .inr (.inr (.inr (.inr ((fun _ => none))))))), (r1, .inl (cR, 24, .inr (.inr (.inr (.inr ((fun _ => none))))))), (mm, .inr (10, [.int 0, .int 9, .int t5, .int 99, .ref c2, .ref ps2, .ref pr, .int 0, .int 0, .int ((-1)), .ref l2, .long 0])), (ps2, .inr (3, [.int 0, .ref em, .int 0]))] _ := hP
  have hD : va_D A [(pr, .inl (cP, 2, .inr (.inr (.inr (.inr ((tw_two r0 r1))))))), (r0, .inl (cR, 24, .inr (.inr (.inr (.inr ((fun _ => none))))))), (r1, .inl (cR, 24, .inr (.inr (.inr (.inr ((fun _ => none))))))), (mm, .inr (10, [.int 0, .int 9, .int t5, .int 99, .ref c2, .ref ps2, .ref pr, .int 0, .int 0, .int ((-1)), .ref l2, .long 0])), (ps2, .inr (3, [.int 0, .ref em, .int 0]))] := hD
  have hK : va_K D vwCl [(cP, .array (.object "TowerliftryModel$Car")), (cR, .object "TowerliftryModel$Car")] s := hK
  refine W.widen (k := 6) (n := 24) (Nat.le_refl _) (Nat.le_refl _) ?_
  refine W.eq (g2 := F0 m 23 ls [.int 0]) rfl ?_
  refine lv_if_ne (tgt := 38) hx hb dX6_forgets_23 (by decide) (fun c9 => absurd c9 (by decide)) (fun c9 => ?_)
  refine lv_aload_n hx hb dX6_forgets_26 rfl (lv_at hl 2 rfl) ?_
  refine va_get (D := D) (ci := 10) (v := .ref pr) (C := RX6) (T := TX6) (N := 12) hx hb hts hiRX6 hown hK hP 3 rfl rfl 6 (by decide) (hts (.fieldLink RX6 29 "TowerliftryModel" "promises" "[[LTowerliftryModel$Car;") (by decide +kernel)) (fun _ h9 => h9) rfl dX6_forgets_27 ?_
  refine lv_iload_n hx hb dX6_forgets_30 rfl (lv_at hl 0 rfl) ?_
  have hPc := hP.sub (ws' := []) [] rfl
  have hDc := hD.sub (ws' := []) [] (by decide) rfl
  have hKc := hK.sub (tys' := []) [] rfl
  have hFc := va_free (wc := []) hD hS hA [] rfl
  refine va_calli (va_runS (As := [.int 1]) (rest := [.ref pr]) ⟨hx, hb, hml, hown, hts⟩ (c_X6_rowu l hst em kw kb D  _) (va_cwS 1 hts gX6_forgets_X6_row rfl rfl rfl (by decide +kernel) ⟨(Nat.le_of_ble_eq_true rfl), (Nat.le_of_ble_eq_true rfl)⟩) (tw_preS hF hS hFc hPc hKc hDc) rfl rfl hl.1 rfl (lv_room (Nat.le_of_ble_eq_true rfl)) dX6_forgets_31 ⟨(Nat.le_of_ble_eq_true rfl), (Nat.le_of_ble_eq_true rfl)⟩) hS (fun q _ h => hFc q h) hFc (fun r u t H locs ht hvm hw hB hz1 hk1 hS => ?_)
  obtain ⟨rfl, rfl⟩ := hw
  obtain ⟨hP, hD, hK⟩ := tw_join (wr := [(pr, .inl (cP, 2, .inr (.inr (.inr (.inr ((tw_two r0 r1))))))), (r0, .inl (cR, 24, .inr (.inr (.inr (.inr ((fun _ => none))))))), (r1, .inl (cR, 24, .inr (.inr (.inr (.inr ((fun _ => none))))))), (mm, .inr (10, [.int 0, .int 9, .int t5, .int 99, .ref c2, .ref ps2, .ref pr, .int 0, .int 0, .int ((-1)), .ref l2, .long 0])), (ps2, .inr (3, [.int 0, .ref em, .int 0]))]) hP hD hK [] [0, 1, 2, 3, 4] rfl rfl (by decide) (by decide) hk1 hFc ht hvm hB
  have hP : va_P D vwCl [(pr, .inl (cP, 2, .inr (.inr (.inr (.inr ((tw_two r0 r1))))))), (r0, .inl (cR, 24, .inr (.inr (.inr (.inr ((fun _ => none))))))), (r1, .inl (cR, 24, .inr (.inr (.inr (.inr ((fun _ => none))))))), (mm, .inr (10, [.int 0, .int 9, .int t5, .int 99, .ref c2, .ref ps2, .ref pr, .int 0, .int 0, .int ((-1)), .ref l2, .long 0])), (ps2, .inr (3, [.int 0, .ref em, .int 0]))] _ := hP
  have hD : va_D A [(pr, .inl (cP, 2, .inr (.inr (.inr (.inr ((tw_two r0 r1))))))), (r0, .inl (cR, 24, .inr (.inr (.inr (.inr ((fun _ => none))))))), (r1, .inl (cR, 24, .inr (.inr (.inr (.inr ((fun _ => none))))))), (mm, .inr (10, [.int 0, .int 9, .int t5, .int 99, .ref c2, .ref ps2, .ref pr, .int 0, .int 0, .int ((-1)), .ref l2, .long 0])), (ps2, .inr (3, [.int 0, .ref em, .int 0]))] := hD
  have hK : va_K D vwCl [(cP, .array (.object "TowerliftryModel$Car")), (cR, .object "TowerliftryModel$Car")] s := hK
  refine W.widen (k := 6) (n := 24) (Nat.le_refl _) (Nat.le_refl _) ?_
  refine W.eq (g2 := F0 m 34 ls [.int 1, .ref pr]) rfl ?_
  refine tw_aldA hx hb hK hP 0 0 rfl rfl (by unfold vp_in; decide) dX6_forgets_34 ?_
  rw [tw_two1]
  refine W.eq (g2 := F0 m 35 ls [.ref r1]) rfl ?_
  refine lv_iload_n hx hb dX6_forgets_35 rfl (lv_at hl 1 rfl) ?_
  refine lv_null hx hb dX6_forgets_36 ?_
  refine va_astqN hx hb hK hP hD hS 2 1 rfl rfl (by unfold vp_in; decide) dX6_forgets_37 (fun H locs hP hD hS => ?_)
  have hP : va_P D vwCl [(pr, .inl (cP, 2, .inr (.inr (.inr (.inr ((tw_two r0 r1))))))), (r0, .inl (cR, 24, .inr (.inr (.inr (.inr ((fun _ => none))))))), (r1, .inl (cR, 24, .inr (.inr (.inr (.inr (va_up ((fun _ => none)) (2 : Int32).toNatClampNeg none)))))), (mm, .inr (10, [.int 0, .int 9, .int t5, .int 99, .ref c2, .ref ps2, .ref pr, .int 0, .int 0, .int ((-1)), .ref l2, .long 0])), (ps2, .inr (3, [.int 0, .ref em, .int 0]))] _ := hP
  have hD : va_D A [(pr, .inl (cP, 2, .inr (.inr (.inr (.inr ((tw_two r0 r1))))))), (r0, .inl (cR, 24, .inr (.inr (.inr (.inr ((fun _ => none))))))), (r1, .inl (cR, 24, .inr (.inr (.inr (.inr (va_up ((fun _ => none)) (2 : Int32).toNatClampNeg none)))))), (mm, .inr (10, [.int 0, .int 9, .int t5, .int 99, .ref c2, .ref ps2, .ref pr, .int 0, .int 0, .int ((-1)), .ref l2, .long 0])), (ps2, .inr (3, [.int 0, .ref em, .int 0]))] := hD
  rw [tw_upn] at hP hD
  have hP : va_P D vwCl [(pr, .inl (cP, 2, .inr (.inr (.inr (.inr ((tw_two r0 r1))))))), (r0, .inl (cR, 24, .inr (.inr (.inr (.inr ((fun _ => none))))))), (r1, .inl (cR, 24, .inr (.inr (.inr (.inr ((fun _ => none))))))), (mm, .inr (10, [.int 0, .int 9, .int t5, .int 99, .ref c2, .ref ps2, .ref pr, .int 0, .int 0, .int ((-1)), .ref l2, .long 0])), (ps2, .inr (3, [.int 0, .ref em, .int 0]))] _ := hP
  have hD : va_D A [(pr, .inl (cP, 2, .inr (.inr (.inr (.inr ((tw_two r0 r1))))))), (r0, .inl (cR, 24, .inr (.inr (.inr (.inr ((fun _ => none))))))), (r1, .inl (cR, 24, .inr (.inr (.inr (.inr ((fun _ => none))))))), (mm, .inr (10, [.int 0, .int 9, .int t5, .int 99, .ref c2, .ref ps2, .ref pr, .int 0, .int 0, .int ((-1)), .ref l2, .long 0])), (ps2, .inr (3, [.int 0, .ref em, .int 0]))] := hD
  refine lv_iinc (v := 3) (lv' := [(2, .int 3), (1, .int 2), (0, .ref mm)]) hx hb dX6_forgets_38 hl (k := 0) rfl (by decide) (by decide) rfl (fun ls hl => ?_)
  refine lv_goto (tgt := 12) hx hb dX6_forgets_41 (by decide) ?_
  refine lv_iload_n hx hb dX6_forgets_12 rfl (lv_at hl 0 rfl) ?_
  refine lv_iconst (v := 2) hx hb dX6_forgets_13 (by decide) ?_
  refine lv_icmp_ge (tgt := 44) hx hb dX6_forgets_14 (by decide) (fun c9 => ?_) (fun c9 => absurd c9 (by decide))
  refine lv_iinc (v := 3) (lv' := [(1, .int 3), (2, .int 3), (0, .ref mm)]) hx hb dX6_forgets_44 hl (k := 1) rfl (by decide) (by decide) rfl (fun ls hl => ?_)
  refine lv_goto (tgt := 2) hx hb dX6_forgets_47 (by decide) ?_
  refine lv_iload_n hx hb dX6_forgets_2 rfl (lv_at hl 0 rfl) ?_
  refine lv_aload_n hx hb dX6_forgets_3 rfl (lv_at hl 2 rfl) ?_
  refine va_get (D := D) (ci := 10) (v := .int 9) (C := RX6) (T := TX6) (N := 12) hx hb hts hiRX6 hown hK hP 3 rfl rfl 1 (by decide) (hts (.fieldLink RX6 7 "TowerliftryModel" "top" "I") (by decide +kernel)) (fun _ h9 => h9) rfl dX6_forgets_4 ?_
  refine lv_icmp_gt (tgt := 50) hx hb dX6_forgets_7 (by decide) (fun c9 => absurd c9 (by decide)) (fun c9 => ?_)
  refine lv_iconst (v := (-1)) hx hb dX6_forgets_10 (by decide) ?_
  refine lv_istore_n (lv' := [(2, .int ((-1))), (1, .int 3), (0, .ref mm)]) hx hb dX6_forgets_11 rfl hl (by decide) rfl (fun ls hl => ?_)
  refine lv_iload_n hx hb dX6_forgets_12 rfl (lv_at hl 0 rfl) ?_
  refine lv_iconst (v := 2) hx hb dX6_forgets_13 (by decide) ?_
  refine lv_icmp_ge (tgt := 44) hx hb dX6_forgets_14 (by decide) (fun c9 => absurd c9 (by decide)) (fun c9 => ?_)
  refine lv_aload_n hx hb dX6_forgets_17 rfl (lv_at hl 2 rfl) ?_
  refine lv_iload_n hx hb dX6_forgets_18 rfl (lv_at hl 1 rfl) ?_
  refine lv_iload_n hx hb dX6_forgets_19 rfl (lv_at hl 0 rfl) ?_
  have hPc := hP.sub (ws' := [(mm, .inr (10, [.int 0, .int 9, .int t5, .int 99, .ref c2, .ref ps2, .ref pr, .int 0, .int 0, .int ((-1)), .ref l2, .long 0])), (ps2, .inr (3, [.int 0, .ref em, .int 0]))]) [3, 4] rfl
  have hDc := hD.sub (ws' := [(mm, .inr (10, [.int 0, .int 9, .int t5, .int 99, .ref c2, .ref ps2, .ref pr, .int 0, .int 0, .int ((-1)), .ref l2, .long 0])), (ps2, .inr (3, [.int 0, .ref em, .int 0]))]) [3, 4] (by decide) rfl
  have hKc := hK.sub (tys' := []) [] rfl
  have hFc := va_free (wc := [(mm, .inr (10, [.int 0, .int 9, .int t5, .int 99, .ref c2, .ref ps2, .ref pr, .int 0, .int 0, .int ((-1)), .ref l2, .long 0])), (ps2, .inr (3, [.int 0, .ref em, .int 0]))]) hD hS hA [3, 4] rfl
  refine va_calli (va_runV (As := [.int 3, .int ((-1))]) (rest := []) ⟨hx, hb, hml, hown, hts⟩ (c_X6_isCall l hst em kw kb D mm 3 ((-1)) t5 c2 ps2 pr l2 _) (cwV 2 hts gX6_forgets_X6_isCall rfl rfl rfl (by decide +kernel) ⟨(Nat.le_of_ble_eq_true rfl), (Nat.le_of_ble_eq_true rfl)⟩) (tw_preV hF hS hFc hPc hKc hDc (va_recv hKc hPc (ci := 10) (q0 := 0) rfl rfl)) rfl rfl hl.1 rfl (lv_room (Nat.le_of_ble_eq_true rfl)) dX6_forgets_20 ⟨(Nat.le_of_ble_eq_true rfl), (Nat.le_of_ble_eq_true rfl)⟩) hS (fun q _ h => hFc q h) hFc (fun r u t H locs ht hvm hw hB hz1 hk1 hS => ?_)
  obtain ⟨rfl, rfl⟩ := hw
  obtain ⟨hP, hD, hK⟩ := tw_join (wr := [(pr, .inl (cP, 2, .inr (.inr (.inr (.inr ((tw_two r0 r1))))))), (r0, .inl (cR, 24, .inr (.inr (.inr (.inr ((fun _ => none))))))), (r1, .inl (cR, 24, .inr (.inr (.inr (.inr ((fun _ => none)))))))]) hP hD hK [3, 4] [0, 1, 2] rfl rfl (by decide) (by decide) hk1 hFc ht hvm hB
  have hP : va_P D vwCl [(pr, .inl (cP, 2, .inr (.inr (.inr (.inr ((tw_two r0 r1))))))), (r0, .inl (cR, 24, .inr (.inr (.inr (.inr ((fun _ => none))))))), (r1, .inl (cR, 24, .inr (.inr (.inr (.inr ((fun _ => none))))))), (mm, .inr (10, [.int 0, .int 9, .int t5, .int 99, .ref c2, .ref ps2, .ref pr, .int 0, .int 0, .int ((-1)), .ref l2, .long 0])), (ps2, .inr (3, [.int 0, .ref em, .int 0]))] _ := hP
  have hD : va_D A [(pr, .inl (cP, 2, .inr (.inr (.inr (.inr ((tw_two r0 r1))))))), (r0, .inl (cR, 24, .inr (.inr (.inr (.inr ((fun _ => none))))))), (r1, .inl (cR, 24, .inr (.inr (.inr (.inr ((fun _ => none))))))), (mm, .inr (10, [.int 0, .int 9, .int t5, .int 99, .ref c2, .ref ps2, .ref pr, .int 0, .int 0, .int ((-1)), .ref l2, .long 0])), (ps2, .inr (3, [.int 0, .ref em, .int 0]))] := hD
  have hK : va_K D vwCl [(cP, .array (.object "TowerliftryModel$Car")), (cR, .object "TowerliftryModel$Car")] s := hK
  refine W.widen (k := 7) (n := 28) (Nat.le_refl _) (Nat.le_refl _) ?_
  refine W.eq (g2 := F0 m 23 ls [.int 0]) rfl ?_
  refine lv_if_ne (tgt := 38) hx hb dX6_forgets_23 (by decide) (fun c9 => absurd c9 (by decide)) (fun c9 => ?_)
  refine lv_aload_n hx hb dX6_forgets_26 rfl (lv_at hl 2 rfl) ?_
  refine va_get (D := D) (ci := 10) (v := .ref pr) (C := RX6) (T := TX6) (N := 12) hx hb hts hiRX6 hown hK hP 3 rfl rfl 6 (by decide) (hts (.fieldLink RX6 29 "TowerliftryModel" "promises" "[[LTowerliftryModel$Car;") (by decide +kernel)) (fun _ h9 => h9) rfl dX6_forgets_27 ?_
  refine lv_iload_n hx hb dX6_forgets_30 rfl (lv_at hl 0 rfl) ?_
  have hPc := hP.sub (ws' := []) [] rfl
  have hDc := hD.sub (ws' := []) [] (by decide) rfl
  have hKc := hK.sub (tys' := []) [] rfl
  have hFc := va_free (wc := []) hD hS hA [] rfl
  refine va_calli (va_runS (As := [.int ((-1))]) (rest := [.ref pr]) ⟨hx, hb, hml, hown, hts⟩ (c_X6_rowd l hst em kw kb D  _) (va_cwS 1 hts gX6_forgets_X6_row rfl rfl rfl (by decide +kernel) ⟨(Nat.le_of_ble_eq_true rfl), (Nat.le_of_ble_eq_true rfl)⟩) (tw_preS hF hS hFc hPc hKc hDc) rfl rfl hl.1 rfl (lv_room (Nat.le_of_ble_eq_true rfl)) dX6_forgets_31 ⟨(Nat.le_of_ble_eq_true rfl), (Nat.le_of_ble_eq_true rfl)⟩) hS (fun q _ h => hFc q h) hFc (fun r u t H locs ht hvm hw hB hz1 hk1 hS => ?_)
  obtain ⟨rfl, rfl⟩ := hw
  obtain ⟨hP, hD, hK⟩ := tw_join (wr := [(pr, .inl (cP, 2, .inr (.inr (.inr (.inr ((tw_two r0 r1))))))), (r0, .inl (cR, 24, .inr (.inr (.inr (.inr ((fun _ => none))))))), (r1, .inl (cR, 24, .inr (.inr (.inr (.inr ((fun _ => none))))))), (mm, .inr (10, [.int 0, .int 9, .int t5, .int 99, .ref c2, .ref ps2, .ref pr, .int 0, .int 0, .int ((-1)), .ref l2, .long 0])), (ps2, .inr (3, [.int 0, .ref em, .int 0]))]) hP hD hK [] [0, 1, 2, 3, 4] rfl rfl (by decide) (by decide) hk1 hFc ht hvm hB
  have hP : va_P D vwCl [(pr, .inl (cP, 2, .inr (.inr (.inr (.inr ((tw_two r0 r1))))))), (r0, .inl (cR, 24, .inr (.inr (.inr (.inr ((fun _ => none))))))), (r1, .inl (cR, 24, .inr (.inr (.inr (.inr ((fun _ => none))))))), (mm, .inr (10, [.int 0, .int 9, .int t5, .int 99, .ref c2, .ref ps2, .ref pr, .int 0, .int 0, .int ((-1)), .ref l2, .long 0])), (ps2, .inr (3, [.int 0, .ref em, .int 0]))] _ := hP
  have hD : va_D A [(pr, .inl (cP, 2, .inr (.inr (.inr (.inr ((tw_two r0 r1))))))), (r0, .inl (cR, 24, .inr (.inr (.inr (.inr ((fun _ => none))))))), (r1, .inl (cR, 24, .inr (.inr (.inr (.inr ((fun _ => none))))))), (mm, .inr (10, [.int 0, .int 9, .int t5, .int 99, .ref c2, .ref ps2, .ref pr, .int 0, .int 0, .int ((-1)), .ref l2, .long 0])), (ps2, .inr (3, [.int 0, .ref em, .int 0]))] := hD
  have hK : va_K D vwCl [(cP, .array (.object "TowerliftryModel$Car")), (cR, .object "TowerliftryModel$Car")] s := hK
  refine W.widen (k := 7) (n := 28) (Nat.le_refl _) (Nat.le_refl _) ?_
  refine W.eq (g2 := F0 m 34 ls [.int 0, .ref pr]) rfl ?_
  refine tw_aldA hx hb hK hP 0 0 rfl rfl (by unfold vp_in; decide) dX6_forgets_34 ?_
  rw [tw_two0]
  refine W.eq (g2 := F0 m 35 ls [.ref r0]) rfl ?_
  refine lv_iload_n hx hb dX6_forgets_35 rfl (lv_at hl 1 rfl) ?_
  refine lv_null hx hb dX6_forgets_36 ?_
  refine va_astqN hx hb hK hP hD hS 1 1 rfl rfl (by unfold vp_in; decide) dX6_forgets_37 (fun H locs hP hD hS => ?_)
  have hP : va_P D vwCl [(pr, .inl (cP, 2, .inr (.inr (.inr (.inr ((tw_two r0 r1))))))), (r0, .inl (cR, 24, .inr (.inr (.inr (.inr (va_up ((fun _ => none)) (3 : Int32).toNatClampNeg none)))))), (r1, .inl (cR, 24, .inr (.inr (.inr (.inr ((fun _ => none))))))), (mm, .inr (10, [.int 0, .int 9, .int t5, .int 99, .ref c2, .ref ps2, .ref pr, .int 0, .int 0, .int ((-1)), .ref l2, .long 0])), (ps2, .inr (3, [.int 0, .ref em, .int 0]))] _ := hP
  have hD : va_D A [(pr, .inl (cP, 2, .inr (.inr (.inr (.inr ((tw_two r0 r1))))))), (r0, .inl (cR, 24, .inr (.inr (.inr (.inr (va_up ((fun _ => none)) (3 : Int32).toNatClampNeg none)))))), (r1, .inl (cR, 24, .inr (.inr (.inr (.inr ((fun _ => none))))))), (mm, .inr (10, [.int 0, .int 9, .int t5, .int 99, .ref c2, .ref ps2, .ref pr, .int 0, .int 0, .int ((-1)), .ref l2, .long 0])), (ps2, .inr (3, [.int 0, .ref em, .int 0]))] := hD
  rw [tw_upn] at hP hD
  have hP : va_P D vwCl [(pr, .inl (cP, 2, .inr (.inr (.inr (.inr ((tw_two r0 r1))))))), (r0, .inl (cR, 24, .inr (.inr (.inr (.inr ((fun _ => none))))))), (r1, .inl (cR, 24, .inr (.inr (.inr (.inr ((fun _ => none))))))), (mm, .inr (10, [.int 0, .int 9, .int t5, .int 99, .ref c2, .ref ps2, .ref pr, .int 0, .int 0, .int ((-1)), .ref l2, .long 0])), (ps2, .inr (3, [.int 0, .ref em, .int 0]))] _ := hP
  have hD : va_D A [(pr, .inl (cP, 2, .inr (.inr (.inr (.inr ((tw_two r0 r1))))))), (r0, .inl (cR, 24, .inr (.inr (.inr (.inr ((fun _ => none))))))), (r1, .inl (cR, 24, .inr (.inr (.inr (.inr ((fun _ => none))))))), (mm, .inr (10, [.int 0, .int 9, .int t5, .int 99, .ref c2, .ref ps2, .ref pr, .int 0, .int 0, .int ((-1)), .ref l2, .long 0])), (ps2, .inr (3, [.int 0, .ref em, .int 0]))] := hD
  refine lv_iinc (v := 1) (lv' := [(2, .int 1), (1, .int 3), (0, .ref mm)]) hx hb dX6_forgets_38 hl (k := 0) rfl (by decide) (by decide) rfl (fun ls hl => ?_)
  refine lv_goto (tgt := 12) hx hb dX6_forgets_41 (by decide) ?_
  refine lv_iload_n hx hb dX6_forgets_12 rfl (lv_at hl 0 rfl) ?_
  refine lv_iconst (v := 2) hx hb dX6_forgets_13 (by decide) ?_
  refine lv_icmp_ge (tgt := 44) hx hb dX6_forgets_14 (by decide) (fun c9 => absurd c9 (by decide)) (fun c9 => ?_)
  refine lv_aload_n hx hb dX6_forgets_17 rfl (lv_at hl 2 rfl) ?_
  refine lv_iload_n hx hb dX6_forgets_18 rfl (lv_at hl 1 rfl) ?_
  refine lv_iload_n hx hb dX6_forgets_19 rfl (lv_at hl 0 rfl) ?_
  have hPc := hP.sub (ws' := [(mm, .inr (10, [.int 0, .int 9, .int t5, .int 99, .ref c2, .ref ps2, .ref pr, .int 0, .int 0, .int ((-1)), .ref l2, .long 0])), (ps2, .inr (3, [.int 0, .ref em, .int 0]))]) [3, 4] rfl
  have hDc := hD.sub (ws' := [(mm, .inr (10, [.int 0, .int 9, .int t5, .int 99, .ref c2, .ref ps2, .ref pr, .int 0, .int 0, .int ((-1)), .ref l2, .long 0])), (ps2, .inr (3, [.int 0, .ref em, .int 0]))]) [3, 4] (by decide) rfl
  have hKc := hK.sub (tys' := []) [] rfl
  have hFc := va_free (wc := [(mm, .inr (10, [.int 0, .int 9, .int t5, .int 99, .ref c2, .ref ps2, .ref pr, .int 0, .int 0, .int ((-1)), .ref l2, .long 0])), (ps2, .inr (3, [.int 0, .ref em, .int 0]))]) hD hS hA [3, 4] rfl
  refine va_calli (va_runV (As := [.int 3, .int 1]) (rest := []) ⟨hx, hb, hml, hown, hts⟩ (c_X6_isCall l hst em kw kb D mm 3 1 t5 c2 ps2 pr l2 _) (cwV 2 hts gX6_forgets_X6_isCall rfl rfl rfl (by decide +kernel) ⟨(Nat.le_of_ble_eq_true rfl), (Nat.le_of_ble_eq_true rfl)⟩) (tw_preV hF hS hFc hPc hKc hDc (va_recv hKc hPc (ci := 10) (q0 := 0) rfl rfl)) rfl rfl hl.1 rfl (lv_room (Nat.le_of_ble_eq_true rfl)) dX6_forgets_20 ⟨(Nat.le_of_ble_eq_true rfl), (Nat.le_of_ble_eq_true rfl)⟩) hS (fun q _ h => hFc q h) hFc (fun r u t H locs ht hvm hw hB hz1 hk1 hS => ?_)
  obtain ⟨rfl, rfl⟩ := hw
  obtain ⟨hP, hD, hK⟩ := tw_join (wr := [(pr, .inl (cP, 2, .inr (.inr (.inr (.inr ((tw_two r0 r1))))))), (r0, .inl (cR, 24, .inr (.inr (.inr (.inr ((fun _ => none))))))), (r1, .inl (cR, 24, .inr (.inr (.inr (.inr ((fun _ => none)))))))]) hP hD hK [3, 4] [0, 1, 2] rfl rfl (by decide) (by decide) hk1 hFc ht hvm hB
  have hP : va_P D vwCl [(pr, .inl (cP, 2, .inr (.inr (.inr (.inr ((tw_two r0 r1))))))), (r0, .inl (cR, 24, .inr (.inr (.inr (.inr ((fun _ => none))))))), (r1, .inl (cR, 24, .inr (.inr (.inr (.inr ((fun _ => none))))))), (mm, .inr (10, [.int 0, .int 9, .int t5, .int 99, .ref c2, .ref ps2, .ref pr, .int 0, .int 0, .int ((-1)), .ref l2, .long 0])), (ps2, .inr (3, [.int 0, .ref em, .int 0]))] _ := hP
  have hD : va_D A [(pr, .inl (cP, 2, .inr (.inr (.inr (.inr ((tw_two r0 r1))))))), (r0, .inl (cR, 24, .inr (.inr (.inr (.inr ((fun _ => none))))))), (r1, .inl (cR, 24, .inr (.inr (.inr (.inr ((fun _ => none))))))), (mm, .inr (10, [.int 0, .int 9, .int t5, .int 99, .ref c2, .ref ps2, .ref pr, .int 0, .int 0, .int ((-1)), .ref l2, .long 0])), (ps2, .inr (3, [.int 0, .ref em, .int 0]))] := hD
  have hK : va_K D vwCl [(cP, .array (.object "TowerliftryModel$Car")), (cR, .object "TowerliftryModel$Car")] s := hK
  refine W.widen (k := 8) (n := 32) (Nat.le_refl _) (Nat.le_refl _) ?_
  refine W.eq (g2 := F0 m 23 ls [.int 0]) rfl ?_
  refine lv_if_ne (tgt := 38) hx hb dX6_forgets_23 (by decide) (fun c9 => absurd c9 (by decide)) (fun c9 => ?_)
  refine lv_aload_n hx hb dX6_forgets_26 rfl (lv_at hl 2 rfl) ?_
  refine va_get (D := D) (ci := 10) (v := .ref pr) (C := RX6) (T := TX6) (N := 12) hx hb hts hiRX6 hown hK hP 3 rfl rfl 6 (by decide) (hts (.fieldLink RX6 29 "TowerliftryModel" "promises" "[[LTowerliftryModel$Car;") (by decide +kernel)) (fun _ h9 => h9) rfl dX6_forgets_27 ?_
  refine lv_iload_n hx hb dX6_forgets_30 rfl (lv_at hl 0 rfl) ?_
  have hPc := hP.sub (ws' := []) [] rfl
  have hDc := hD.sub (ws' := []) [] (by decide) rfl
  have hKc := hK.sub (tys' := []) [] rfl
  have hFc := va_free (wc := []) hD hS hA [] rfl
  refine va_calli (va_runS (As := [.int 1]) (rest := [.ref pr]) ⟨hx, hb, hml, hown, hts⟩ (c_X6_rowu l hst em kw kb D  _) (va_cwS 1 hts gX6_forgets_X6_row rfl rfl rfl (by decide +kernel) ⟨(Nat.le_of_ble_eq_true rfl), (Nat.le_of_ble_eq_true rfl)⟩) (tw_preS hF hS hFc hPc hKc hDc) rfl rfl hl.1 rfl (lv_room (Nat.le_of_ble_eq_true rfl)) dX6_forgets_31 ⟨(Nat.le_of_ble_eq_true rfl), (Nat.le_of_ble_eq_true rfl)⟩) hS (fun q _ h => hFc q h) hFc (fun r u t H locs ht hvm hw hB hz1 hk1 hS => ?_)
  obtain ⟨rfl, rfl⟩ := hw
  obtain ⟨hP, hD, hK⟩ := tw_join (wr := [(pr, .inl (cP, 2, .inr (.inr (.inr (.inr ((tw_two r0 r1))))))), (r0, .inl (cR, 24, .inr (.inr (.inr (.inr ((fun _ => none))))))), (r1, .inl (cR, 24, .inr (.inr (.inr (.inr ((fun _ => none))))))), (mm, .inr (10, [.int 0, .int 9, .int t5, .int 99, .ref c2, .ref ps2, .ref pr, .int 0, .int 0, .int ((-1)), .ref l2, .long 0])), (ps2, .inr (3, [.int 0, .ref em, .int 0]))]) hP hD hK [] [0, 1, 2, 3, 4] rfl rfl (by decide) (by decide) hk1 hFc ht hvm hB
  have hP : va_P D vwCl [(pr, .inl (cP, 2, .inr (.inr (.inr (.inr ((tw_two r0 r1))))))), (r0, .inl (cR, 24, .inr (.inr (.inr (.inr ((fun _ => none))))))), (r1, .inl (cR, 24, .inr (.inr (.inr (.inr ((fun _ => none))))))), (mm, .inr (10, [.int 0, .int 9, .int t5, .int 99, .ref c2, .ref ps2, .ref pr, .int 0, .int 0, .int ((-1)), .ref l2, .long 0])), (ps2, .inr (3, [.int 0, .ref em, .int 0]))] _ := hP
  have hD : va_D A [(pr, .inl (cP, 2, .inr (.inr (.inr (.inr ((tw_two r0 r1))))))), (r0, .inl (cR, 24, .inr (.inr (.inr (.inr ((fun _ => none))))))), (r1, .inl (cR, 24, .inr (.inr (.inr (.inr ((fun _ => none))))))), (mm, .inr (10, [.int 0, .int 9, .int t5, .int 99, .ref c2, .ref ps2, .ref pr, .int 0, .int 0, .int ((-1)), .ref l2, .long 0])), (ps2, .inr (3, [.int 0, .ref em, .int 0]))] := hD
  have hK : va_K D vwCl [(cP, .array (.object "TowerliftryModel$Car")), (cR, .object "TowerliftryModel$Car")] s := hK
  refine W.widen (k := 8) (n := 32) (Nat.le_refl _) (Nat.le_refl _) ?_
  refine W.eq (g2 := F0 m 34 ls [.int 1, .ref pr]) rfl ?_
  refine tw_aldA hx hb hK hP 0 0 rfl rfl (by unfold vp_in; decide) dX6_forgets_34 ?_
  rw [tw_two1]
  refine W.eq (g2 := F0 m 35 ls [.ref r1]) rfl ?_
  refine lv_iload_n hx hb dX6_forgets_35 rfl (lv_at hl 1 rfl) ?_
  refine lv_null hx hb dX6_forgets_36 ?_
  refine va_astqN hx hb hK hP hD hS 2 1 rfl rfl (by unfold vp_in; decide) dX6_forgets_37 (fun H locs hP hD hS => ?_)
  have hP : va_P D vwCl [(pr, .inl (cP, 2, .inr (.inr (.inr (.inr ((tw_two r0 r1))))))), (r0, .inl (cR, 24, .inr (.inr (.inr (.inr ((fun _ => none))))))), (r1, .inl (cR, 24, .inr (.inr (.inr (.inr (va_up ((fun _ => none)) (3 : Int32).toNatClampNeg none)))))), (mm, .inr (10, [.int 0, .int 9, .int t5, .int 99, .ref c2, .ref ps2, .ref pr, .int 0, .int 0, .int ((-1)), .ref l2, .long 0])), (ps2, .inr (3, [.int 0, .ref em, .int 0]))] _ := hP
  have hD : va_D A [(pr, .inl (cP, 2, .inr (.inr (.inr (.inr ((tw_two r0 r1))))))), (r0, .inl (cR, 24, .inr (.inr (.inr (.inr ((fun _ => none))))))), (r1, .inl (cR, 24, .inr (.inr (.inr (.inr (va_up ((fun _ => none)) (3 : Int32).toNatClampNeg none)))))), (mm, .inr (10, [.int 0, .int 9, .int t5, .int 99, .ref c2, .ref ps2, .ref pr, .int 0, .int 0, .int ((-1)), .ref l2, .long 0])), (ps2, .inr (3, [.int 0, .ref em, .int 0]))] := hD
  rw [tw_upn] at hP hD
  have hP : va_P D vwCl [(pr, .inl (cP, 2, .inr (.inr (.inr (.inr ((tw_two r0 r1))))))), (r0, .inl (cR, 24, .inr (.inr (.inr (.inr ((fun _ => none))))))), (r1, .inl (cR, 24, .inr (.inr (.inr (.inr ((fun _ => none))))))), (mm, .inr (10, [.int 0, .int 9, .int t5, .int 99, .ref c2, .ref ps2, .ref pr, .int 0, .int 0, .int ((-1)), .ref l2, .long 0])), (ps2, .inr (3, [.int 0, .ref em, .int 0]))] _ := hP
  have hD : va_D A [(pr, .inl (cP, 2, .inr (.inr (.inr (.inr ((tw_two r0 r1))))))), (r0, .inl (cR, 24, .inr (.inr (.inr (.inr ((fun _ => none))))))), (r1, .inl (cR, 24, .inr (.inr (.inr (.inr ((fun _ => none))))))), (mm, .inr (10, [.int 0, .int 9, .int t5, .int 99, .ref c2, .ref ps2, .ref pr, .int 0, .int 0, .int ((-1)), .ref l2, .long 0])), (ps2, .inr (3, [.int 0, .ref em, .int 0]))] := hD
  refine lv_iinc (v := 3) (lv' := [(2, .int 3), (1, .int 3), (0, .ref mm)]) hx hb dX6_forgets_38 hl (k := 0) rfl (by decide) (by decide) rfl (fun ls hl => ?_)
  refine lv_goto (tgt := 12) hx hb dX6_forgets_41 (by decide) ?_
  refine lv_iload_n hx hb dX6_forgets_12 rfl (lv_at hl 0 rfl) ?_
  refine lv_iconst (v := 2) hx hb dX6_forgets_13 (by decide) ?_
  refine lv_icmp_ge (tgt := 44) hx hb dX6_forgets_14 (by decide) (fun c9 => ?_) (fun c9 => absurd c9 (by decide))
  refine lv_iinc (v := 4) (lv' := [(1, .int 4), (2, .int 3), (0, .ref mm)]) hx hb dX6_forgets_44 hl (k := 1) rfl (by decide) (by decide) rfl (fun ls hl => ?_)
  refine lv_goto (tgt := 2) hx hb dX6_forgets_47 (by decide) ?_
  refine lv_iload_n hx hb dX6_forgets_2 rfl (lv_at hl 0 rfl) ?_
  refine lv_aload_n hx hb dX6_forgets_3 rfl (lv_at hl 2 rfl) ?_
  refine va_get (D := D) (ci := 10) (v := .int 9) (C := RX6) (T := TX6) (N := 12) hx hb hts hiRX6 hown hK hP 3 rfl rfl 1 (by decide) (hts (.fieldLink RX6 7 "TowerliftryModel" "top" "I") (by decide +kernel)) (fun _ h9 => h9) rfl dX6_forgets_4 ?_
  refine lv_icmp_gt (tgt := 50) hx hb dX6_forgets_7 (by decide) (fun c9 => absurd c9 (by decide)) (fun c9 => ?_)
  refine lv_iconst (v := (-1)) hx hb dX6_forgets_10 (by decide) ?_
  refine lv_istore_n (lv' := [(2, .int ((-1))), (1, .int 4), (0, .ref mm)]) hx hb dX6_forgets_11 rfl hl (by decide) rfl (fun ls hl => ?_)
  refine lv_iload_n hx hb dX6_forgets_12 rfl (lv_at hl 0 rfl) ?_
  refine lv_iconst (v := 2) hx hb dX6_forgets_13 (by decide) ?_
  refine lv_icmp_ge (tgt := 44) hx hb dX6_forgets_14 (by decide) (fun c9 => absurd c9 (by decide)) (fun c9 => ?_)
  refine lv_aload_n hx hb dX6_forgets_17 rfl (lv_at hl 2 rfl) ?_
  refine lv_iload_n hx hb dX6_forgets_18 rfl (lv_at hl 1 rfl) ?_
  refine lv_iload_n hx hb dX6_forgets_19 rfl (lv_at hl 0 rfl) ?_
  have hPc := hP.sub (ws' := [(mm, .inr (10, [.int 0, .int 9, .int t5, .int 99, .ref c2, .ref ps2, .ref pr, .int 0, .int 0, .int ((-1)), .ref l2, .long 0])), (ps2, .inr (3, [.int 0, .ref em, .int 0]))]) [3, 4] rfl
  have hDc := hD.sub (ws' := [(mm, .inr (10, [.int 0, .int 9, .int t5, .int 99, .ref c2, .ref ps2, .ref pr, .int 0, .int 0, .int ((-1)), .ref l2, .long 0])), (ps2, .inr (3, [.int 0, .ref em, .int 0]))]) [3, 4] (by decide) rfl
  have hKc := hK.sub (tys' := []) [] rfl
  have hFc := va_free (wc := [(mm, .inr (10, [.int 0, .int 9, .int t5, .int 99, .ref c2, .ref ps2, .ref pr, .int 0, .int 0, .int ((-1)), .ref l2, .long 0])), (ps2, .inr (3, [.int 0, .ref em, .int 0]))]) hD hS hA [3, 4] rfl
  refine va_calli (va_runV (As := [.int 4, .int ((-1))]) (rest := []) ⟨hx, hb, hml, hown, hts⟩ (c_X6_isCall l hst em kw kb D mm 4 ((-1)) t5 c2 ps2 pr l2 _) (cwV 2 hts gX6_forgets_X6_isCall rfl rfl rfl (by decide +kernel) ⟨(Nat.le_of_ble_eq_true rfl), (Nat.le_of_ble_eq_true rfl)⟩) (tw_preV hF hS hFc hPc hKc hDc (va_recv hKc hPc (ci := 10) (q0 := 0) rfl rfl)) rfl rfl hl.1 rfl (lv_room (Nat.le_of_ble_eq_true rfl)) dX6_forgets_20 ⟨(Nat.le_of_ble_eq_true rfl), (Nat.le_of_ble_eq_true rfl)⟩) hS (fun q _ h => hFc q h) hFc (fun r u t H locs ht hvm hw hB hz1 hk1 hS => ?_)
  obtain ⟨rfl, rfl⟩ := hw
  obtain ⟨hP, hD, hK⟩ := tw_join (wr := [(pr, .inl (cP, 2, .inr (.inr (.inr (.inr ((tw_two r0 r1))))))), (r0, .inl (cR, 24, .inr (.inr (.inr (.inr ((fun _ => none))))))), (r1, .inl (cR, 24, .inr (.inr (.inr (.inr ((fun _ => none)))))))]) hP hD hK [3, 4] [0, 1, 2] rfl rfl (by decide) (by decide) hk1 hFc ht hvm hB
  have hP : va_P D vwCl [(pr, .inl (cP, 2, .inr (.inr (.inr (.inr ((tw_two r0 r1))))))), (r0, .inl (cR, 24, .inr (.inr (.inr (.inr ((fun _ => none))))))), (r1, .inl (cR, 24, .inr (.inr (.inr (.inr ((fun _ => none))))))), (mm, .inr (10, [.int 0, .int 9, .int t5, .int 99, .ref c2, .ref ps2, .ref pr, .int 0, .int 0, .int ((-1)), .ref l2, .long 0])), (ps2, .inr (3, [.int 0, .ref em, .int 0]))] _ := hP
  have hD : va_D A [(pr, .inl (cP, 2, .inr (.inr (.inr (.inr ((tw_two r0 r1))))))), (r0, .inl (cR, 24, .inr (.inr (.inr (.inr ((fun _ => none))))))), (r1, .inl (cR, 24, .inr (.inr (.inr (.inr ((fun _ => none))))))), (mm, .inr (10, [.int 0, .int 9, .int t5, .int 99, .ref c2, .ref ps2, .ref pr, .int 0, .int 0, .int ((-1)), .ref l2, .long 0])), (ps2, .inr (3, [.int 0, .ref em, .int 0]))] := hD
  have hK : va_K D vwCl [(cP, .array (.object "TowerliftryModel$Car")), (cR, .object "TowerliftryModel$Car")] s := hK
  refine W.widen (k := 9) (n := 36) (Nat.le_refl _) (Nat.le_refl _) ?_
  refine W.eq (g2 := F0 m 23 ls [.int 0]) rfl ?_
  refine lv_if_ne (tgt := 38) hx hb dX6_forgets_23 (by decide) (fun c9 => absurd c9 (by decide)) (fun c9 => ?_)
  refine lv_aload_n hx hb dX6_forgets_26 rfl (lv_at hl 2 rfl) ?_
  refine va_get (D := D) (ci := 10) (v := .ref pr) (C := RX6) (T := TX6) (N := 12) hx hb hts hiRX6 hown hK hP 3 rfl rfl 6 (by decide) (hts (.fieldLink RX6 29 "TowerliftryModel" "promises" "[[LTowerliftryModel$Car;") (by decide +kernel)) (fun _ h9 => h9) rfl dX6_forgets_27 ?_
  refine lv_iload_n hx hb dX6_forgets_30 rfl (lv_at hl 0 rfl) ?_
  have hPc := hP.sub (ws' := []) [] rfl
  have hDc := hD.sub (ws' := []) [] (by decide) rfl
  have hKc := hK.sub (tys' := []) [] rfl
  have hFc := va_free (wc := []) hD hS hA [] rfl
  refine va_calli (va_runS (As := [.int ((-1))]) (rest := [.ref pr]) ⟨hx, hb, hml, hown, hts⟩ (c_X6_rowd l hst em kw kb D  _) (va_cwS 1 hts gX6_forgets_X6_row rfl rfl rfl (by decide +kernel) ⟨(Nat.le_of_ble_eq_true rfl), (Nat.le_of_ble_eq_true rfl)⟩) (tw_preS hF hS hFc hPc hKc hDc) rfl rfl hl.1 rfl (lv_room (Nat.le_of_ble_eq_true rfl)) dX6_forgets_31 ⟨(Nat.le_of_ble_eq_true rfl), (Nat.le_of_ble_eq_true rfl)⟩) hS (fun q _ h => hFc q h) hFc (fun r u t H locs ht hvm hw hB hz1 hk1 hS => ?_)
  obtain ⟨rfl, rfl⟩ := hw
  obtain ⟨hP, hD, hK⟩ := tw_join (wr := [(pr, .inl (cP, 2, .inr (.inr (.inr (.inr ((tw_two r0 r1))))))), (r0, .inl (cR, 24, .inr (.inr (.inr (.inr ((fun _ => none))))))), (r1, .inl (cR, 24, .inr (.inr (.inr (.inr ((fun _ => none))))))), (mm, .inr (10, [.int 0, .int 9, .int t5, .int 99, .ref c2, .ref ps2, .ref pr, .int 0, .int 0, .int ((-1)), .ref l2, .long 0])), (ps2, .inr (3, [.int 0, .ref em, .int 0]))]) hP hD hK [] [0, 1, 2, 3, 4] rfl rfl (by decide) (by decide) hk1 hFc ht hvm hB
  have hP : va_P D vwCl [(pr, .inl (cP, 2, .inr (.inr (.inr (.inr ((tw_two r0 r1))))))), (r0, .inl (cR, 24, .inr (.inr (.inr (.inr ((fun _ => none))))))), (r1, .inl (cR, 24, .inr (.inr (.inr (.inr ((fun _ => none))))))), (mm, .inr (10, [.int 0, .int 9, .int t5, .int 99, .ref c2, .ref ps2, .ref pr, .int 0, .int 0, .int ((-1)), .ref l2, .long 0])), (ps2, .inr (3, [.int 0, .ref em, .int 0]))] _ := hP
  have hD : va_D A [(pr, .inl (cP, 2, .inr (.inr (.inr (.inr ((tw_two r0 r1))))))), (r0, .inl (cR, 24, .inr (.inr (.inr (.inr ((fun _ => none))))))), (r1, .inl (cR, 24, .inr (.inr (.inr (.inr ((fun _ => none))))))), (mm, .inr (10, [.int 0, .int 9, .int t5, .int 99, .ref c2, .ref ps2, .ref pr, .int 0, .int 0, .int ((-1)), .ref l2, .long 0])), (ps2, .inr (3, [.int 0, .ref em, .int 0]))] := hD
  have hK : va_K D vwCl [(cP, .array (.object "TowerliftryModel$Car")), (cR, .object "TowerliftryModel$Car")] s := hK
  refine W.widen (k := 9) (n := 36) (Nat.le_refl _) (Nat.le_refl _) ?_
  refine W.eq (g2 := F0 m 34 ls [.int 0, .ref pr]) rfl ?_
  refine tw_aldA hx hb hK hP 0 0 rfl rfl (by unfold vp_in; decide) dX6_forgets_34 ?_
  rw [tw_two0]
  refine W.eq (g2 := F0 m 35 ls [.ref r0]) rfl ?_
  refine lv_iload_n hx hb dX6_forgets_35 rfl (lv_at hl 1 rfl) ?_
  refine lv_null hx hb dX6_forgets_36 ?_
  refine va_astqN hx hb hK hP hD hS 1 1 rfl rfl (by unfold vp_in; decide) dX6_forgets_37 (fun H locs hP hD hS => ?_)
  have hP : va_P D vwCl [(pr, .inl (cP, 2, .inr (.inr (.inr (.inr ((tw_two r0 r1))))))), (r0, .inl (cR, 24, .inr (.inr (.inr (.inr (va_up ((fun _ => none)) (4 : Int32).toNatClampNeg none)))))), (r1, .inl (cR, 24, .inr (.inr (.inr (.inr ((fun _ => none))))))), (mm, .inr (10, [.int 0, .int 9, .int t5, .int 99, .ref c2, .ref ps2, .ref pr, .int 0, .int 0, .int ((-1)), .ref l2, .long 0])), (ps2, .inr (3, [.int 0, .ref em, .int 0]))] _ := hP
  have hD : va_D A [(pr, .inl (cP, 2, .inr (.inr (.inr (.inr ((tw_two r0 r1))))))), (r0, .inl (cR, 24, .inr (.inr (.inr (.inr (va_up ((fun _ => none)) (4 : Int32).toNatClampNeg none)))))), (r1, .inl (cR, 24, .inr (.inr (.inr (.inr ((fun _ => none))))))), (mm, .inr (10, [.int 0, .int 9, .int t5, .int 99, .ref c2, .ref ps2, .ref pr, .int 0, .int 0, .int ((-1)), .ref l2, .long 0])), (ps2, .inr (3, [.int 0, .ref em, .int 0]))] := hD
  rw [tw_upn] at hP hD
  have hP : va_P D vwCl [(pr, .inl (cP, 2, .inr (.inr (.inr (.inr ((tw_two r0 r1))))))), (r0, .inl (cR, 24, .inr (.inr (.inr (.inr ((fun _ => none))))))), (r1, .inl (cR, 24, .inr (.inr (.inr (.inr ((fun _ => none))))))), (mm, .inr (10, [.int 0, .int 9, .int t5, .int 99, .ref c2, .ref ps2, .ref pr, .int 0, .int 0, .int ((-1)), .ref l2, .long 0])), (ps2, .inr (3, [.int 0, .ref em, .int 0]))] _ := hP
  have hD : va_D A [(pr, .inl (cP, 2, .inr (.inr (.inr (.inr ((tw_two r0 r1))))))), (r0, .inl (cR, 24, .inr (.inr (.inr (.inr ((fun _ => none))))))), (r1, .inl (cR, 24, .inr (.inr (.inr (.inr ((fun _ => none))))))), (mm, .inr (10, [.int 0, .int 9, .int t5, .int 99, .ref c2, .ref ps2, .ref pr, .int 0, .int 0, .int ((-1)), .ref l2, .long 0])), (ps2, .inr (3, [.int 0, .ref em, .int 0]))] := hD
  refine lv_iinc (v := 1) (lv' := [(2, .int 1), (1, .int 4), (0, .ref mm)]) hx hb dX6_forgets_38 hl (k := 0) rfl (by decide) (by decide) rfl (fun ls hl => ?_)
  refine lv_goto (tgt := 12) hx hb dX6_forgets_41 (by decide) ?_
  refine lv_iload_n hx hb dX6_forgets_12 rfl (lv_at hl 0 rfl) ?_
  refine lv_iconst (v := 2) hx hb dX6_forgets_13 (by decide) ?_
  refine lv_icmp_ge (tgt := 44) hx hb dX6_forgets_14 (by decide) (fun c9 => absurd c9 (by decide)) (fun c9 => ?_)
  refine lv_aload_n hx hb dX6_forgets_17 rfl (lv_at hl 2 rfl) ?_
  refine lv_iload_n hx hb dX6_forgets_18 rfl (lv_at hl 1 rfl) ?_
  refine lv_iload_n hx hb dX6_forgets_19 rfl (lv_at hl 0 rfl) ?_
  have hPc := hP.sub (ws' := [(mm, .inr (10, [.int 0, .int 9, .int t5, .int 99, .ref c2, .ref ps2, .ref pr, .int 0, .int 0, .int ((-1)), .ref l2, .long 0])), (ps2, .inr (3, [.int 0, .ref em, .int 0]))]) [3, 4] rfl
  have hDc := hD.sub (ws' := [(mm, .inr (10, [.int 0, .int 9, .int t5, .int 99, .ref c2, .ref ps2, .ref pr, .int 0, .int 0, .int ((-1)), .ref l2, .long 0])), (ps2, .inr (3, [.int 0, .ref em, .int 0]))]) [3, 4] (by decide) rfl
  have hKc := hK.sub (tys' := []) [] rfl
  have hFc := va_free (wc := [(mm, .inr (10, [.int 0, .int 9, .int t5, .int 99, .ref c2, .ref ps2, .ref pr, .int 0, .int 0, .int ((-1)), .ref l2, .long 0])), (ps2, .inr (3, [.int 0, .ref em, .int 0]))]) hD hS hA [3, 4] rfl
  refine va_calli (va_runV (As := [.int 4, .int 1]) (rest := []) ⟨hx, hb, hml, hown, hts⟩ (c_X6_isCall l hst em kw kb D mm 4 1 t5 c2 ps2 pr l2 _) (cwV 2 hts gX6_forgets_X6_isCall rfl rfl rfl (by decide +kernel) ⟨(Nat.le_of_ble_eq_true rfl), (Nat.le_of_ble_eq_true rfl)⟩) (tw_preV hF hS hFc hPc hKc hDc (va_recv hKc hPc (ci := 10) (q0 := 0) rfl rfl)) rfl rfl hl.1 rfl (lv_room (Nat.le_of_ble_eq_true rfl)) dX6_forgets_20 ⟨(Nat.le_of_ble_eq_true rfl), (Nat.le_of_ble_eq_true rfl)⟩) hS (fun q _ h => hFc q h) hFc (fun r u t H locs ht hvm hw hB hz1 hk1 hS => ?_)
  obtain ⟨rfl, rfl⟩ := hw
  obtain ⟨hP, hD, hK⟩ := tw_join (wr := [(pr, .inl (cP, 2, .inr (.inr (.inr (.inr ((tw_two r0 r1))))))), (r0, .inl (cR, 24, .inr (.inr (.inr (.inr ((fun _ => none))))))), (r1, .inl (cR, 24, .inr (.inr (.inr (.inr ((fun _ => none)))))))]) hP hD hK [3, 4] [0, 1, 2] rfl rfl (by decide) (by decide) hk1 hFc ht hvm hB
  have hP : va_P D vwCl [(pr, .inl (cP, 2, .inr (.inr (.inr (.inr ((tw_two r0 r1))))))), (r0, .inl (cR, 24, .inr (.inr (.inr (.inr ((fun _ => none))))))), (r1, .inl (cR, 24, .inr (.inr (.inr (.inr ((fun _ => none))))))), (mm, .inr (10, [.int 0, .int 9, .int t5, .int 99, .ref c2, .ref ps2, .ref pr, .int 0, .int 0, .int ((-1)), .ref l2, .long 0])), (ps2, .inr (3, [.int 0, .ref em, .int 0]))] _ := hP
  have hD : va_D A [(pr, .inl (cP, 2, .inr (.inr (.inr (.inr ((tw_two r0 r1))))))), (r0, .inl (cR, 24, .inr (.inr (.inr (.inr ((fun _ => none))))))), (r1, .inl (cR, 24, .inr (.inr (.inr (.inr ((fun _ => none))))))), (mm, .inr (10, [.int 0, .int 9, .int t5, .int 99, .ref c2, .ref ps2, .ref pr, .int 0, .int 0, .int ((-1)), .ref l2, .long 0])), (ps2, .inr (3, [.int 0, .ref em, .int 0]))] := hD
  have hK : va_K D vwCl [(cP, .array (.object "TowerliftryModel$Car")), (cR, .object "TowerliftryModel$Car")] s := hK
  refine W.widen (k := 10) (n := 40) (Nat.le_refl _) (Nat.le_refl _) ?_
  refine W.eq (g2 := F0 m 23 ls [.int 0]) rfl ?_
  refine lv_if_ne (tgt := 38) hx hb dX6_forgets_23 (by decide) (fun c9 => absurd c9 (by decide)) (fun c9 => ?_)
  refine lv_aload_n hx hb dX6_forgets_26 rfl (lv_at hl 2 rfl) ?_
  refine va_get (D := D) (ci := 10) (v := .ref pr) (C := RX6) (T := TX6) (N := 12) hx hb hts hiRX6 hown hK hP 3 rfl rfl 6 (by decide) (hts (.fieldLink RX6 29 "TowerliftryModel" "promises" "[[LTowerliftryModel$Car;") (by decide +kernel)) (fun _ h9 => h9) rfl dX6_forgets_27 ?_
  refine lv_iload_n hx hb dX6_forgets_30 rfl (lv_at hl 0 rfl) ?_
  have hPc := hP.sub (ws' := []) [] rfl
  have hDc := hD.sub (ws' := []) [] (by decide) rfl
  have hKc := hK.sub (tys' := []) [] rfl
  have hFc := va_free (wc := []) hD hS hA [] rfl
  refine va_calli (va_runS (As := [.int 1]) (rest := [.ref pr]) ⟨hx, hb, hml, hown, hts⟩ (c_X6_rowu l hst em kw kb D  _) (va_cwS 1 hts gX6_forgets_X6_row rfl rfl rfl (by decide +kernel) ⟨(Nat.le_of_ble_eq_true rfl), (Nat.le_of_ble_eq_true rfl)⟩) (tw_preS hF hS hFc hPc hKc hDc) rfl rfl hl.1 rfl (lv_room (Nat.le_of_ble_eq_true rfl)) dX6_forgets_31 ⟨(Nat.le_of_ble_eq_true rfl), (Nat.le_of_ble_eq_true rfl)⟩) hS (fun q _ h => hFc q h) hFc (fun r u t H locs ht hvm hw hB hz1 hk1 hS => ?_)
  obtain ⟨rfl, rfl⟩ := hw
  obtain ⟨hP, hD, hK⟩ := tw_join (wr := [(pr, .inl (cP, 2, .inr (.inr (.inr (.inr ((tw_two r0 r1))))))), (r0, .inl (cR, 24, .inr (.inr (.inr (.inr ((fun _ => none))))))), (r1, .inl (cR, 24, .inr (.inr (.inr (.inr ((fun _ => none))))))), (mm, .inr (10, [.int 0, .int 9, .int t5, .int 99, .ref c2, .ref ps2, .ref pr, .int 0, .int 0, .int ((-1)), .ref l2, .long 0])), (ps2, .inr (3, [.int 0, .ref em, .int 0]))]) hP hD hK [] [0, 1, 2, 3, 4] rfl rfl (by decide) (by decide) hk1 hFc ht hvm hB
  have hP : va_P D vwCl [(pr, .inl (cP, 2, .inr (.inr (.inr (.inr ((tw_two r0 r1))))))), (r0, .inl (cR, 24, .inr (.inr (.inr (.inr ((fun _ => none))))))), (r1, .inl (cR, 24, .inr (.inr (.inr (.inr ((fun _ => none))))))), (mm, .inr (10, [.int 0, .int 9, .int t5, .int 99, .ref c2, .ref ps2, .ref pr, .int 0, .int 0, .int ((-1)), .ref l2, .long 0])), (ps2, .inr (3, [.int 0, .ref em, .int 0]))] _ := hP
  have hD : va_D A [(pr, .inl (cP, 2, .inr (.inr (.inr (.inr ((tw_two r0 r1))))))), (r0, .inl (cR, 24, .inr (.inr (.inr (.inr ((fun _ => none))))))), (r1, .inl (cR, 24, .inr (.inr (.inr (.inr ((fun _ => none))))))), (mm, .inr (10, [.int 0, .int 9, .int t5, .int 99, .ref c2, .ref ps2, .ref pr, .int 0, .int 0, .int ((-1)), .ref l2, .long 0])), (ps2, .inr (3, [.int 0, .ref em, .int 0]))] := hD
  have hK : va_K D vwCl [(cP, .array (.object "TowerliftryModel$Car")), (cR, .object "TowerliftryModel$Car")] s := hK
  refine W.widen (k := 10) (n := 40) (Nat.le_refl _) (Nat.le_refl _) ?_
  refine W.eq (g2 := F0 m 34 ls [.int 1, .ref pr]) rfl ?_
  refine tw_aldA hx hb hK hP 0 0 rfl rfl (by unfold vp_in; decide) dX6_forgets_34 ?_
  rw [tw_two1]
  refine W.eq (g2 := F0 m 35 ls [.ref r1]) rfl ?_
  refine lv_iload_n hx hb dX6_forgets_35 rfl (lv_at hl 1 rfl) ?_
  refine lv_null hx hb dX6_forgets_36 ?_
  refine va_astqN hx hb hK hP hD hS 2 1 rfl rfl (by unfold vp_in; decide) dX6_forgets_37 (fun H locs hP hD hS => ?_)
  have hP : va_P D vwCl [(pr, .inl (cP, 2, .inr (.inr (.inr (.inr ((tw_two r0 r1))))))), (r0, .inl (cR, 24, .inr (.inr (.inr (.inr ((fun _ => none))))))), (r1, .inl (cR, 24, .inr (.inr (.inr (.inr (va_up ((fun _ => none)) (4 : Int32).toNatClampNeg none)))))), (mm, .inr (10, [.int 0, .int 9, .int t5, .int 99, .ref c2, .ref ps2, .ref pr, .int 0, .int 0, .int ((-1)), .ref l2, .long 0])), (ps2, .inr (3, [.int 0, .ref em, .int 0]))] _ := hP
  have hD : va_D A [(pr, .inl (cP, 2, .inr (.inr (.inr (.inr ((tw_two r0 r1))))))), (r0, .inl (cR, 24, .inr (.inr (.inr (.inr ((fun _ => none))))))), (r1, .inl (cR, 24, .inr (.inr (.inr (.inr (va_up ((fun _ => none)) (4 : Int32).toNatClampNeg none)))))), (mm, .inr (10, [.int 0, .int 9, .int t5, .int 99, .ref c2, .ref ps2, .ref pr, .int 0, .int 0, .int ((-1)), .ref l2, .long 0])), (ps2, .inr (3, [.int 0, .ref em, .int 0]))] := hD
  rw [tw_upn] at hP hD
  have hP : va_P D vwCl [(pr, .inl (cP, 2, .inr (.inr (.inr (.inr ((tw_two r0 r1))))))), (r0, .inl (cR, 24, .inr (.inr (.inr (.inr ((fun _ => none))))))), (r1, .inl (cR, 24, .inr (.inr (.inr (.inr ((fun _ => none))))))), (mm, .inr (10, [.int 0, .int 9, .int t5, .int 99, .ref c2, .ref ps2, .ref pr, .int 0, .int 0, .int ((-1)), .ref l2, .long 0])), (ps2, .inr (3, [.int 0, .ref em, .int 0]))] _ := hP
  have hD : va_D A [(pr, .inl (cP, 2, .inr (.inr (.inr (.inr ((tw_two r0 r1))))))), (r0, .inl (cR, 24, .inr (.inr (.inr (.inr ((fun _ => none))))))), (r1, .inl (cR, 24, .inr (.inr (.inr (.inr ((fun _ => none))))))), (mm, .inr (10, [.int 0, .int 9, .int t5, .int 99, .ref c2, .ref ps2, .ref pr, .int 0, .int 0, .int ((-1)), .ref l2, .long 0])), (ps2, .inr (3, [.int 0, .ref em, .int 0]))] := hD
  refine lv_iinc (v := 3) (lv' := [(2, .int 3), (1, .int 4), (0, .ref mm)]) hx hb dX6_forgets_38 hl (k := 0) rfl (by decide) (by decide) rfl (fun ls hl => ?_)
  refine lv_goto (tgt := 12) hx hb dX6_forgets_41 (by decide) ?_
  refine lv_iload_n hx hb dX6_forgets_12 rfl (lv_at hl 0 rfl) ?_
  refine lv_iconst (v := 2) hx hb dX6_forgets_13 (by decide) ?_
  refine lv_icmp_ge (tgt := 44) hx hb dX6_forgets_14 (by decide) (fun c9 => ?_) (fun c9 => absurd c9 (by decide))
  refine lv_iinc (v := 5) (lv' := [(1, .int 5), (2, .int 3), (0, .ref mm)]) hx hb dX6_forgets_44 hl (k := 1) rfl (by decide) (by decide) rfl (fun ls hl => ?_)
  refine lv_goto (tgt := 2) hx hb dX6_forgets_47 (by decide) ?_
  refine lv_iload_n hx hb dX6_forgets_2 rfl (lv_at hl 0 rfl) ?_
  refine lv_aload_n hx hb dX6_forgets_3 rfl (lv_at hl 2 rfl) ?_
  refine va_get (D := D) (ci := 10) (v := .int 9) (C := RX6) (T := TX6) (N := 12) hx hb hts hiRX6 hown hK hP 3 rfl rfl 1 (by decide) (hts (.fieldLink RX6 7 "TowerliftryModel" "top" "I") (by decide +kernel)) (fun _ h9 => h9) rfl dX6_forgets_4 ?_
  refine lv_icmp_gt (tgt := 50) hx hb dX6_forgets_7 (by decide) (fun c9 => absurd c9 (by decide)) (fun c9 => ?_)
  refine lv_iconst (v := (-1)) hx hb dX6_forgets_10 (by decide) ?_
  refine lv_istore_n (lv' := [(2, .int ((-1))), (1, .int 5), (0, .ref mm)]) hx hb dX6_forgets_11 rfl hl (by decide) rfl (fun ls hl => ?_)
  refine lv_iload_n hx hb dX6_forgets_12 rfl (lv_at hl 0 rfl) ?_
  refine lv_iconst (v := 2) hx hb dX6_forgets_13 (by decide) ?_
  refine lv_icmp_ge (tgt := 44) hx hb dX6_forgets_14 (by decide) (fun c9 => absurd c9 (by decide)) (fun c9 => ?_)
  refine lv_aload_n hx hb dX6_forgets_17 rfl (lv_at hl 2 rfl) ?_
  refine lv_iload_n hx hb dX6_forgets_18 rfl (lv_at hl 1 rfl) ?_
  refine lv_iload_n hx hb dX6_forgets_19 rfl (lv_at hl 0 rfl) ?_
  have hPc := hP.sub (ws' := [(mm, .inr (10, [.int 0, .int 9, .int t5, .int 99, .ref c2, .ref ps2, .ref pr, .int 0, .int 0, .int ((-1)), .ref l2, .long 0])), (ps2, .inr (3, [.int 0, .ref em, .int 0]))]) [3, 4] rfl
  have hDc := hD.sub (ws' := [(mm, .inr (10, [.int 0, .int 9, .int t5, .int 99, .ref c2, .ref ps2, .ref pr, .int 0, .int 0, .int ((-1)), .ref l2, .long 0])), (ps2, .inr (3, [.int 0, .ref em, .int 0]))]) [3, 4] (by decide) rfl
  have hKc := hK.sub (tys' := []) [] rfl
  have hFc := va_free (wc := [(mm, .inr (10, [.int 0, .int 9, .int t5, .int 99, .ref c2, .ref ps2, .ref pr, .int 0, .int 0, .int ((-1)), .ref l2, .long 0])), (ps2, .inr (3, [.int 0, .ref em, .int 0]))]) hD hS hA [3, 4] rfl
  refine va_calli (va_runV (As := [.int 5, .int ((-1))]) (rest := []) ⟨hx, hb, hml, hown, hts⟩ (c_X6_isCall l hst em kw kb D mm 5 ((-1)) t5 c2 ps2 pr l2 _) (cwV 2 hts gX6_forgets_X6_isCall rfl rfl rfl (by decide +kernel) ⟨(Nat.le_of_ble_eq_true rfl), (Nat.le_of_ble_eq_true rfl)⟩) (tw_preV hF hS hFc hPc hKc hDc (va_recv hKc hPc (ci := 10) (q0 := 0) rfl rfl)) rfl rfl hl.1 rfl (lv_room (Nat.le_of_ble_eq_true rfl)) dX6_forgets_20 ⟨(Nat.le_of_ble_eq_true rfl), (Nat.le_of_ble_eq_true rfl)⟩) hS (fun q _ h => hFc q h) hFc (fun r u t H locs ht hvm hw hB hz1 hk1 hS => ?_)
  obtain ⟨rfl, rfl⟩ := hw
  obtain ⟨hP, hD, hK⟩ := tw_join (wr := [(pr, .inl (cP, 2, .inr (.inr (.inr (.inr ((tw_two r0 r1))))))), (r0, .inl (cR, 24, .inr (.inr (.inr (.inr ((fun _ => none))))))), (r1, .inl (cR, 24, .inr (.inr (.inr (.inr ((fun _ => none)))))))]) hP hD hK [3, 4] [0, 1, 2] rfl rfl (by decide) (by decide) hk1 hFc ht hvm hB
  have hP : va_P D vwCl [(pr, .inl (cP, 2, .inr (.inr (.inr (.inr ((tw_two r0 r1))))))), (r0, .inl (cR, 24, .inr (.inr (.inr (.inr ((fun _ => none))))))), (r1, .inl (cR, 24, .inr (.inr (.inr (.inr ((fun _ => none))))))), (mm, .inr (10, [.int 0, .int 9, .int t5, .int 99, .ref c2, .ref ps2, .ref pr, .int 0, .int 0, .int ((-1)), .ref l2, .long 0])), (ps2, .inr (3, [.int 0, .ref em, .int 0]))] _ := hP
  have hD : va_D A [(pr, .inl (cP, 2, .inr (.inr (.inr (.inr ((tw_two r0 r1))))))), (r0, .inl (cR, 24, .inr (.inr (.inr (.inr ((fun _ => none))))))), (r1, .inl (cR, 24, .inr (.inr (.inr (.inr ((fun _ => none))))))), (mm, .inr (10, [.int 0, .int 9, .int t5, .int 99, .ref c2, .ref ps2, .ref pr, .int 0, .int 0, .int ((-1)), .ref l2, .long 0])), (ps2, .inr (3, [.int 0, .ref em, .int 0]))] := hD
  have hK : va_K D vwCl [(cP, .array (.object "TowerliftryModel$Car")), (cR, .object "TowerliftryModel$Car")] s := hK
  refine W.widen (k := 11) (n := 44) (Nat.le_refl _) (Nat.le_refl _) ?_
  refine W.eq (g2 := F0 m 23 ls [.int 0]) rfl ?_
  refine lv_if_ne (tgt := 38) hx hb dX6_forgets_23 (by decide) (fun c9 => absurd c9 (by decide)) (fun c9 => ?_)
  refine lv_aload_n hx hb dX6_forgets_26 rfl (lv_at hl 2 rfl) ?_
  refine va_get (D := D) (ci := 10) (v := .ref pr) (C := RX6) (T := TX6) (N := 12) hx hb hts hiRX6 hown hK hP 3 rfl rfl 6 (by decide) (hts (.fieldLink RX6 29 "TowerliftryModel" "promises" "[[LTowerliftryModel$Car;") (by decide +kernel)) (fun _ h9 => h9) rfl dX6_forgets_27 ?_
  refine lv_iload_n hx hb dX6_forgets_30 rfl (lv_at hl 0 rfl) ?_
  have hPc := hP.sub (ws' := []) [] rfl
  have hDc := hD.sub (ws' := []) [] (by decide) rfl
  have hKc := hK.sub (tys' := []) [] rfl
  have hFc := va_free (wc := []) hD hS hA [] rfl
  refine va_calli (va_runS (As := [.int ((-1))]) (rest := [.ref pr]) ⟨hx, hb, hml, hown, hts⟩ (c_X6_rowd l hst em kw kb D  _) (va_cwS 1 hts gX6_forgets_X6_row rfl rfl rfl (by decide +kernel) ⟨(Nat.le_of_ble_eq_true rfl), (Nat.le_of_ble_eq_true rfl)⟩) (tw_preS hF hS hFc hPc hKc hDc) rfl rfl hl.1 rfl (lv_room (Nat.le_of_ble_eq_true rfl)) dX6_forgets_31 ⟨(Nat.le_of_ble_eq_true rfl), (Nat.le_of_ble_eq_true rfl)⟩) hS (fun q _ h => hFc q h) hFc (fun r u t H locs ht hvm hw hB hz1 hk1 hS => ?_)
  obtain ⟨rfl, rfl⟩ := hw
  obtain ⟨hP, hD, hK⟩ := tw_join (wr := [(pr, .inl (cP, 2, .inr (.inr (.inr (.inr ((tw_two r0 r1))))))), (r0, .inl (cR, 24, .inr (.inr (.inr (.inr ((fun _ => none))))))), (r1, .inl (cR, 24, .inr (.inr (.inr (.inr ((fun _ => none))))))), (mm, .inr (10, [.int 0, .int 9, .int t5, .int 99, .ref c2, .ref ps2, .ref pr, .int 0, .int 0, .int ((-1)), .ref l2, .long 0])), (ps2, .inr (3, [.int 0, .ref em, .int 0]))]) hP hD hK [] [0, 1, 2, 3, 4] rfl rfl (by decide) (by decide) hk1 hFc ht hvm hB
  have hP : va_P D vwCl [(pr, .inl (cP, 2, .inr (.inr (.inr (.inr ((tw_two r0 r1))))))), (r0, .inl (cR, 24, .inr (.inr (.inr (.inr ((fun _ => none))))))), (r1, .inl (cR, 24, .inr (.inr (.inr (.inr ((fun _ => none))))))), (mm, .inr (10, [.int 0, .int 9, .int t5, .int 99, .ref c2, .ref ps2, .ref pr, .int 0, .int 0, .int ((-1)), .ref l2, .long 0])), (ps2, .inr (3, [.int 0, .ref em, .int 0]))] _ := hP
  have hD : va_D A [(pr, .inl (cP, 2, .inr (.inr (.inr (.inr ((tw_two r0 r1))))))), (r0, .inl (cR, 24, .inr (.inr (.inr (.inr ((fun _ => none))))))), (r1, .inl (cR, 24, .inr (.inr (.inr (.inr ((fun _ => none))))))), (mm, .inr (10, [.int 0, .int 9, .int t5, .int 99, .ref c2, .ref ps2, .ref pr, .int 0, .int 0, .int ((-1)), .ref l2, .long 0])), (ps2, .inr (3, [.int 0, .ref em, .int 0]))] := hD
  have hK : va_K D vwCl [(cP, .array (.object "TowerliftryModel$Car")), (cR, .object "TowerliftryModel$Car")] s := hK
  refine W.widen (k := 11) (n := 44) (Nat.le_refl _) (Nat.le_refl _) ?_
  refine W.eq (g2 := F0 m 34 ls [.int 0, .ref pr]) rfl ?_
  refine tw_aldA hx hb hK hP 0 0 rfl rfl (by unfold vp_in; decide) dX6_forgets_34 ?_
  rw [tw_two0]
  refine W.eq (g2 := F0 m 35 ls [.ref r0]) rfl ?_
  refine lv_iload_n hx hb dX6_forgets_35 rfl (lv_at hl 1 rfl) ?_
  refine lv_null hx hb dX6_forgets_36 ?_
  refine va_astqN hx hb hK hP hD hS 1 1 rfl rfl (by unfold vp_in; decide) dX6_forgets_37 (fun H locs hP hD hS => ?_)
  have hP : va_P D vwCl [(pr, .inl (cP, 2, .inr (.inr (.inr (.inr ((tw_two r0 r1))))))), (r0, .inl (cR, 24, .inr (.inr (.inr (.inr (va_up ((fun _ => none)) (5 : Int32).toNatClampNeg none)))))), (r1, .inl (cR, 24, .inr (.inr (.inr (.inr ((fun _ => none))))))), (mm, .inr (10, [.int 0, .int 9, .int t5, .int 99, .ref c2, .ref ps2, .ref pr, .int 0, .int 0, .int ((-1)), .ref l2, .long 0])), (ps2, .inr (3, [.int 0, .ref em, .int 0]))] _ := hP
  have hD : va_D A [(pr, .inl (cP, 2, .inr (.inr (.inr (.inr ((tw_two r0 r1))))))), (r0, .inl (cR, 24, .inr (.inr (.inr (.inr (va_up ((fun _ => none)) (5 : Int32).toNatClampNeg none)))))), (r1, .inl (cR, 24, .inr (.inr (.inr (.inr ((fun _ => none))))))), (mm, .inr (10, [.int 0, .int 9, .int t5, .int 99, .ref c2, .ref ps2, .ref pr, .int 0, .int 0, .int ((-1)), .ref l2, .long 0])), (ps2, .inr (3, [.int 0, .ref em, .int 0]))] := hD
  rw [tw_upn] at hP hD
  have hP : va_P D vwCl [(pr, .inl (cP, 2, .inr (.inr (.inr (.inr ((tw_two r0 r1))))))), (r0, .inl (cR, 24, .inr (.inr (.inr (.inr ((fun _ => none))))))), (r1, .inl (cR, 24, .inr (.inr (.inr (.inr ((fun _ => none))))))), (mm, .inr (10, [.int 0, .int 9, .int t5, .int 99, .ref c2, .ref ps2, .ref pr, .int 0, .int 0, .int ((-1)), .ref l2, .long 0])), (ps2, .inr (3, [.int 0, .ref em, .int 0]))] _ := hP
  have hD : va_D A [(pr, .inl (cP, 2, .inr (.inr (.inr (.inr ((tw_two r0 r1))))))), (r0, .inl (cR, 24, .inr (.inr (.inr (.inr ((fun _ => none))))))), (r1, .inl (cR, 24, .inr (.inr (.inr (.inr ((fun _ => none))))))), (mm, .inr (10, [.int 0, .int 9, .int t5, .int 99, .ref c2, .ref ps2, .ref pr, .int 0, .int 0, .int ((-1)), .ref l2, .long 0])), (ps2, .inr (3, [.int 0, .ref em, .int 0]))] := hD
  refine lv_iinc (v := 1) (lv' := [(2, .int 1), (1, .int 5), (0, .ref mm)]) hx hb dX6_forgets_38 hl (k := 0) rfl (by decide) (by decide) rfl (fun ls hl => ?_)
  refine lv_goto (tgt := 12) hx hb dX6_forgets_41 (by decide) ?_
  refine lv_iload_n hx hb dX6_forgets_12 rfl (lv_at hl 0 rfl) ?_
  refine lv_iconst (v := 2) hx hb dX6_forgets_13 (by decide) ?_
  refine lv_icmp_ge (tgt := 44) hx hb dX6_forgets_14 (by decide) (fun c9 => absurd c9 (by decide)) (fun c9 => ?_)
  refine lv_aload_n hx hb dX6_forgets_17 rfl (lv_at hl 2 rfl) ?_
  refine lv_iload_n hx hb dX6_forgets_18 rfl (lv_at hl 1 rfl) ?_
  refine lv_iload_n hx hb dX6_forgets_19 rfl (lv_at hl 0 rfl) ?_
  have hPc := hP.sub (ws' := [(mm, .inr (10, [.int 0, .int 9, .int t5, .int 99, .ref c2, .ref ps2, .ref pr, .int 0, .int 0, .int ((-1)), .ref l2, .long 0])), (ps2, .inr (3, [.int 0, .ref em, .int 0]))]) [3, 4] rfl
  have hDc := hD.sub (ws' := [(mm, .inr (10, [.int 0, .int 9, .int t5, .int 99, .ref c2, .ref ps2, .ref pr, .int 0, .int 0, .int ((-1)), .ref l2, .long 0])), (ps2, .inr (3, [.int 0, .ref em, .int 0]))]) [3, 4] (by decide) rfl
  have hKc := hK.sub (tys' := []) [] rfl
  have hFc := va_free (wc := [(mm, .inr (10, [.int 0, .int 9, .int t5, .int 99, .ref c2, .ref ps2, .ref pr, .int 0, .int 0, .int ((-1)), .ref l2, .long 0])), (ps2, .inr (3, [.int 0, .ref em, .int 0]))]) hD hS hA [3, 4] rfl
  refine va_calli (va_runV (As := [.int 5, .int 1]) (rest := []) ⟨hx, hb, hml, hown, hts⟩ (c_X6_isCall l hst em kw kb D mm 5 1 t5 c2 ps2 pr l2 _) (cwV 2 hts gX6_forgets_X6_isCall rfl rfl rfl (by decide +kernel) ⟨(Nat.le_of_ble_eq_true rfl), (Nat.le_of_ble_eq_true rfl)⟩) (tw_preV hF hS hFc hPc hKc hDc (va_recv hKc hPc (ci := 10) (q0 := 0) rfl rfl)) rfl rfl hl.1 rfl (lv_room (Nat.le_of_ble_eq_true rfl)) dX6_forgets_20 ⟨(Nat.le_of_ble_eq_true rfl), (Nat.le_of_ble_eq_true rfl)⟩) hS (fun q _ h => hFc q h) hFc (fun r u t H locs ht hvm hw hB hz1 hk1 hS => ?_)
  obtain ⟨rfl, rfl⟩ := hw
  obtain ⟨hP, hD, hK⟩ := tw_join (wr := [(pr, .inl (cP, 2, .inr (.inr (.inr (.inr ((tw_two r0 r1))))))), (r0, .inl (cR, 24, .inr (.inr (.inr (.inr ((fun _ => none))))))), (r1, .inl (cR, 24, .inr (.inr (.inr (.inr ((fun _ => none)))))))]) hP hD hK [3, 4] [0, 1, 2] rfl rfl (by decide) (by decide) hk1 hFc ht hvm hB
  have hP : va_P D vwCl [(pr, .inl (cP, 2, .inr (.inr (.inr (.inr ((tw_two r0 r1))))))), (r0, .inl (cR, 24, .inr (.inr (.inr (.inr ((fun _ => none))))))), (r1, .inl (cR, 24, .inr (.inr (.inr (.inr ((fun _ => none))))))), (mm, .inr (10, [.int 0, .int 9, .int t5, .int 99, .ref c2, .ref ps2, .ref pr, .int 0, .int 0, .int ((-1)), .ref l2, .long 0])), (ps2, .inr (3, [.int 0, .ref em, .int 0]))] _ := hP
  have hD : va_D A [(pr, .inl (cP, 2, .inr (.inr (.inr (.inr ((tw_two r0 r1))))))), (r0, .inl (cR, 24, .inr (.inr (.inr (.inr ((fun _ => none))))))), (r1, .inl (cR, 24, .inr (.inr (.inr (.inr ((fun _ => none))))))), (mm, .inr (10, [.int 0, .int 9, .int t5, .int 99, .ref c2, .ref ps2, .ref pr, .int 0, .int 0, .int ((-1)), .ref l2, .long 0])), (ps2, .inr (3, [.int 0, .ref em, .int 0]))] := hD
  have hK : va_K D vwCl [(cP, .array (.object "TowerliftryModel$Car")), (cR, .object "TowerliftryModel$Car")] s := hK
  refine W.widen (k := 12) (n := 48) (Nat.le_refl _) (Nat.le_refl _) ?_
  refine W.eq (g2 := F0 m 23 ls [.int 0]) rfl ?_
  refine lv_if_ne (tgt := 38) hx hb dX6_forgets_23 (by decide) (fun c9 => absurd c9 (by decide)) (fun c9 => ?_)
  refine lv_aload_n hx hb dX6_forgets_26 rfl (lv_at hl 2 rfl) ?_
  refine va_get (D := D) (ci := 10) (v := .ref pr) (C := RX6) (T := TX6) (N := 12) hx hb hts hiRX6 hown hK hP 3 rfl rfl 6 (by decide) (hts (.fieldLink RX6 29 "TowerliftryModel" "promises" "[[LTowerliftryModel$Car;") (by decide +kernel)) (fun _ h9 => h9) rfl dX6_forgets_27 ?_
  refine lv_iload_n hx hb dX6_forgets_30 rfl (lv_at hl 0 rfl) ?_
  have hPc := hP.sub (ws' := []) [] rfl
  have hDc := hD.sub (ws' := []) [] (by decide) rfl
  have hKc := hK.sub (tys' := []) [] rfl
  have hFc := va_free (wc := []) hD hS hA [] rfl
  refine va_calli (va_runS (As := [.int 1]) (rest := [.ref pr]) ⟨hx, hb, hml, hown, hts⟩ (c_X6_rowu l hst em kw kb D  _) (va_cwS 1 hts gX6_forgets_X6_row rfl rfl rfl (by decide +kernel) ⟨(Nat.le_of_ble_eq_true rfl), (Nat.le_of_ble_eq_true rfl)⟩) (tw_preS hF hS hFc hPc hKc hDc) rfl rfl hl.1 rfl (lv_room (Nat.le_of_ble_eq_true rfl)) dX6_forgets_31 ⟨(Nat.le_of_ble_eq_true rfl), (Nat.le_of_ble_eq_true rfl)⟩) hS (fun q _ h => hFc q h) hFc (fun r u t H locs ht hvm hw hB hz1 hk1 hS => ?_)
  obtain ⟨rfl, rfl⟩ := hw
  obtain ⟨hP, hD, hK⟩ := tw_join (wr := [(pr, .inl (cP, 2, .inr (.inr (.inr (.inr ((tw_two r0 r1))))))), (r0, .inl (cR, 24, .inr (.inr (.inr (.inr ((fun _ => none))))))), (r1, .inl (cR, 24, .inr (.inr (.inr (.inr ((fun _ => none))))))), (mm, .inr (10, [.int 0, .int 9, .int t5, .int 99, .ref c2, .ref ps2, .ref pr, .int 0, .int 0, .int ((-1)), .ref l2, .long 0])), (ps2, .inr (3, [.int 0, .ref em, .int 0]))]) hP hD hK [] [0, 1, 2, 3, 4] rfl rfl (by decide) (by decide) hk1 hFc ht hvm hB
  have hP : va_P D vwCl [(pr, .inl (cP, 2, .inr (.inr (.inr (.inr ((tw_two r0 r1))))))), (r0, .inl (cR, 24, .inr (.inr (.inr (.inr ((fun _ => none))))))), (r1, .inl (cR, 24, .inr (.inr (.inr (.inr ((fun _ => none))))))), (mm, .inr (10, [.int 0, .int 9, .int t5, .int 99, .ref c2, .ref ps2, .ref pr, .int 0, .int 0, .int ((-1)), .ref l2, .long 0])), (ps2, .inr (3, [.int 0, .ref em, .int 0]))] _ := hP
  have hD : va_D A [(pr, .inl (cP, 2, .inr (.inr (.inr (.inr ((tw_two r0 r1))))))), (r0, .inl (cR, 24, .inr (.inr (.inr (.inr ((fun _ => none))))))), (r1, .inl (cR, 24, .inr (.inr (.inr (.inr ((fun _ => none))))))), (mm, .inr (10, [.int 0, .int 9, .int t5, .int 99, .ref c2, .ref ps2, .ref pr, .int 0, .int 0, .int ((-1)), .ref l2, .long 0])), (ps2, .inr (3, [.int 0, .ref em, .int 0]))] := hD
  have hK : va_K D vwCl [(cP, .array (.object "TowerliftryModel$Car")), (cR, .object "TowerliftryModel$Car")] s := hK
  refine W.widen (k := 12) (n := 48) (Nat.le_refl _) (Nat.le_refl _) ?_
  refine W.eq (g2 := F0 m 34 ls [.int 1, .ref pr]) rfl ?_
  refine tw_aldA hx hb hK hP 0 0 rfl rfl (by unfold vp_in; decide) dX6_forgets_34 ?_
  rw [tw_two1]
  refine W.eq (g2 := F0 m 35 ls [.ref r1]) rfl ?_
  refine lv_iload_n hx hb dX6_forgets_35 rfl (lv_at hl 1 rfl) ?_
  refine lv_null hx hb dX6_forgets_36 ?_
  refine va_astqN hx hb hK hP hD hS 2 1 rfl rfl (by unfold vp_in; decide) dX6_forgets_37 (fun H locs hP hD hS => ?_)
  have hP : va_P D vwCl [(pr, .inl (cP, 2, .inr (.inr (.inr (.inr ((tw_two r0 r1))))))), (r0, .inl (cR, 24, .inr (.inr (.inr (.inr ((fun _ => none))))))), (r1, .inl (cR, 24, .inr (.inr (.inr (.inr (va_up ((fun _ => none)) (5 : Int32).toNatClampNeg none)))))), (mm, .inr (10, [.int 0, .int 9, .int t5, .int 99, .ref c2, .ref ps2, .ref pr, .int 0, .int 0, .int ((-1)), .ref l2, .long 0])), (ps2, .inr (3, [.int 0, .ref em, .int 0]))] _ := hP
  have hD : va_D A [(pr, .inl (cP, 2, .inr (.inr (.inr (.inr ((tw_two r0 r1))))))), (r0, .inl (cR, 24, .inr (.inr (.inr (.inr ((fun _ => none))))))), (r1, .inl (cR, 24, .inr (.inr (.inr (.inr (va_up ((fun _ => none)) (5 : Int32).toNatClampNeg none)))))), (mm, .inr (10, [.int 0, .int 9, .int t5, .int 99, .ref c2, .ref ps2, .ref pr, .int 0, .int 0, .int ((-1)), .ref l2, .long 0])), (ps2, .inr (3, [.int 0, .ref em, .int 0]))] := hD
  rw [tw_upn] at hP hD
  have hP : va_P D vwCl [(pr, .inl (cP, 2, .inr (.inr (.inr (.inr ((tw_two r0 r1))))))), (r0, .inl (cR, 24, .inr (.inr (.inr (.inr ((fun _ => none))))))), (r1, .inl (cR, 24, .inr (.inr (.inr (.inr ((fun _ => none))))))), (mm, .inr (10, [.int 0, .int 9, .int t5, .int 99, .ref c2, .ref ps2, .ref pr, .int 0, .int 0, .int ((-1)), .ref l2, .long 0])), (ps2, .inr (3, [.int 0, .ref em, .int 0]))] _ := hP
  have hD : va_D A [(pr, .inl (cP, 2, .inr (.inr (.inr (.inr ((tw_two r0 r1))))))), (r0, .inl (cR, 24, .inr (.inr (.inr (.inr ((fun _ => none))))))), (r1, .inl (cR, 24, .inr (.inr (.inr (.inr ((fun _ => none))))))), (mm, .inr (10, [.int 0, .int 9, .int t5, .int 99, .ref c2, .ref ps2, .ref pr, .int 0, .int 0, .int ((-1)), .ref l2, .long 0])), (ps2, .inr (3, [.int 0, .ref em, .int 0]))] := hD
  refine lv_iinc (v := 3) (lv' := [(2, .int 3), (1, .int 5), (0, .ref mm)]) hx hb dX6_forgets_38 hl (k := 0) rfl (by decide) (by decide) rfl (fun ls hl => ?_)
  refine lv_goto (tgt := 12) hx hb dX6_forgets_41 (by decide) ?_
  refine lv_iload_n hx hb dX6_forgets_12 rfl (lv_at hl 0 rfl) ?_
  refine lv_iconst (v := 2) hx hb dX6_forgets_13 (by decide) ?_
  refine lv_icmp_ge (tgt := 44) hx hb dX6_forgets_14 (by decide) (fun c9 => ?_) (fun c9 => absurd c9 (by decide))
  refine lv_iinc (v := 6) (lv' := [(1, .int 6), (2, .int 3), (0, .ref mm)]) hx hb dX6_forgets_44 hl (k := 1) rfl (by decide) (by decide) rfl (fun ls hl => ?_)
  refine lv_goto (tgt := 2) hx hb dX6_forgets_47 (by decide) ?_
  refine lv_iload_n hx hb dX6_forgets_2 rfl (lv_at hl 0 rfl) ?_
  refine lv_aload_n hx hb dX6_forgets_3 rfl (lv_at hl 2 rfl) ?_
  refine va_get (D := D) (ci := 10) (v := .int 9) (C := RX6) (T := TX6) (N := 12) hx hb hts hiRX6 hown hK hP 3 rfl rfl 1 (by decide) (hts (.fieldLink RX6 7 "TowerliftryModel" "top" "I") (by decide +kernel)) (fun _ h9 => h9) rfl dX6_forgets_4 ?_
  refine lv_icmp_gt (tgt := 50) hx hb dX6_forgets_7 (by decide) (fun c9 => absurd c9 (by decide)) (fun c9 => ?_)
  refine lv_iconst (v := (-1)) hx hb dX6_forgets_10 (by decide) ?_
  refine lv_istore_n (lv' := [(2, .int ((-1))), (1, .int 6), (0, .ref mm)]) hx hb dX6_forgets_11 rfl hl (by decide) rfl (fun ls hl => ?_)
  refine lv_iload_n hx hb dX6_forgets_12 rfl (lv_at hl 0 rfl) ?_
  refine lv_iconst (v := 2) hx hb dX6_forgets_13 (by decide) ?_
  refine lv_icmp_ge (tgt := 44) hx hb dX6_forgets_14 (by decide) (fun c9 => absurd c9 (by decide)) (fun c9 => ?_)
  refine lv_aload_n hx hb dX6_forgets_17 rfl (lv_at hl 2 rfl) ?_
  refine lv_iload_n hx hb dX6_forgets_18 rfl (lv_at hl 1 rfl) ?_
  refine lv_iload_n hx hb dX6_forgets_19 rfl (lv_at hl 0 rfl) ?_
  have hPc := hP.sub (ws' := [(mm, .inr (10, [.int 0, .int 9, .int t5, .int 99, .ref c2, .ref ps2, .ref pr, .int 0, .int 0, .int ((-1)), .ref l2, .long 0])), (ps2, .inr (3, [.int 0, .ref em, .int 0]))]) [3, 4] rfl
  have hDc := hD.sub (ws' := [(mm, .inr (10, [.int 0, .int 9, .int t5, .int 99, .ref c2, .ref ps2, .ref pr, .int 0, .int 0, .int ((-1)), .ref l2, .long 0])), (ps2, .inr (3, [.int 0, .ref em, .int 0]))]) [3, 4] (by decide) rfl
  have hKc := hK.sub (tys' := []) [] rfl
  have hFc := va_free (wc := [(mm, .inr (10, [.int 0, .int 9, .int t5, .int 99, .ref c2, .ref ps2, .ref pr, .int 0, .int 0, .int ((-1)), .ref l2, .long 0])), (ps2, .inr (3, [.int 0, .ref em, .int 0]))]) hD hS hA [3, 4] rfl
  refine va_calli (va_runV (As := [.int 6, .int ((-1))]) (rest := []) ⟨hx, hb, hml, hown, hts⟩ (c_X6_isCall l hst em kw kb D mm 6 ((-1)) t5 c2 ps2 pr l2 _) (cwV 2 hts gX6_forgets_X6_isCall rfl rfl rfl (by decide +kernel) ⟨(Nat.le_of_ble_eq_true rfl), (Nat.le_of_ble_eq_true rfl)⟩) (tw_preV hF hS hFc hPc hKc hDc (va_recv hKc hPc (ci := 10) (q0 := 0) rfl rfl)) rfl rfl hl.1 rfl (lv_room (Nat.le_of_ble_eq_true rfl)) dX6_forgets_20 ⟨(Nat.le_of_ble_eq_true rfl), (Nat.le_of_ble_eq_true rfl)⟩) hS (fun q _ h => hFc q h) hFc (fun r u t H locs ht hvm hw hB hz1 hk1 hS => ?_)
  obtain ⟨rfl, rfl⟩ := hw
  obtain ⟨hP, hD, hK⟩ := tw_join (wr := [(pr, .inl (cP, 2, .inr (.inr (.inr (.inr ((tw_two r0 r1))))))), (r0, .inl (cR, 24, .inr (.inr (.inr (.inr ((fun _ => none))))))), (r1, .inl (cR, 24, .inr (.inr (.inr (.inr ((fun _ => none)))))))]) hP hD hK [3, 4] [0, 1, 2] rfl rfl (by decide) (by decide) hk1 hFc ht hvm hB
  have hP : va_P D vwCl [(pr, .inl (cP, 2, .inr (.inr (.inr (.inr ((tw_two r0 r1))))))), (r0, .inl (cR, 24, .inr (.inr (.inr (.inr ((fun _ => none))))))), (r1, .inl (cR, 24, .inr (.inr (.inr (.inr ((fun _ => none))))))), (mm, .inr (10, [.int 0, .int 9, .int t5, .int 99, .ref c2, .ref ps2, .ref pr, .int 0, .int 0, .int ((-1)), .ref l2, .long 0])), (ps2, .inr (3, [.int 0, .ref em, .int 0]))] _ := hP
  have hD : va_D A [(pr, .inl (cP, 2, .inr (.inr (.inr (.inr ((tw_two r0 r1))))))), (r0, .inl (cR, 24, .inr (.inr (.inr (.inr ((fun _ => none))))))), (r1, .inl (cR, 24, .inr (.inr (.inr (.inr ((fun _ => none))))))), (mm, .inr (10, [.int 0, .int 9, .int t5, .int 99, .ref c2, .ref ps2, .ref pr, .int 0, .int 0, .int ((-1)), .ref l2, .long 0])), (ps2, .inr (3, [.int 0, .ref em, .int 0]))] := hD
  have hK : va_K D vwCl [(cP, .array (.object "TowerliftryModel$Car")), (cR, .object "TowerliftryModel$Car")] s := hK
  refine W.widen (k := 13) (n := 52) (Nat.le_refl _) (Nat.le_refl _) ?_
  refine W.eq (g2 := F0 m 23 ls [.int 0]) rfl ?_
  refine lv_if_ne (tgt := 38) hx hb dX6_forgets_23 (by decide) (fun c9 => absurd c9 (by decide)) (fun c9 => ?_)
  refine lv_aload_n hx hb dX6_forgets_26 rfl (lv_at hl 2 rfl) ?_
  refine va_get (D := D) (ci := 10) (v := .ref pr) (C := RX6) (T := TX6) (N := 12) hx hb hts hiRX6 hown hK hP 3 rfl rfl 6 (by decide) (hts (.fieldLink RX6 29 "TowerliftryModel" "promises" "[[LTowerliftryModel$Car;") (by decide +kernel)) (fun _ h9 => h9) rfl dX6_forgets_27 ?_
  refine lv_iload_n hx hb dX6_forgets_30 rfl (lv_at hl 0 rfl) ?_
  have hPc := hP.sub (ws' := []) [] rfl
  have hDc := hD.sub (ws' := []) [] (by decide) rfl
  have hKc := hK.sub (tys' := []) [] rfl
  have hFc := va_free (wc := []) hD hS hA [] rfl
  refine va_calli (va_runS (As := [.int ((-1))]) (rest := [.ref pr]) ⟨hx, hb, hml, hown, hts⟩ (c_X6_rowd l hst em kw kb D  _) (va_cwS 1 hts gX6_forgets_X6_row rfl rfl rfl (by decide +kernel) ⟨(Nat.le_of_ble_eq_true rfl), (Nat.le_of_ble_eq_true rfl)⟩) (tw_preS hF hS hFc hPc hKc hDc) rfl rfl hl.1 rfl (lv_room (Nat.le_of_ble_eq_true rfl)) dX6_forgets_31 ⟨(Nat.le_of_ble_eq_true rfl), (Nat.le_of_ble_eq_true rfl)⟩) hS (fun q _ h => hFc q h) hFc (fun r u t H locs ht hvm hw hB hz1 hk1 hS => ?_)
  obtain ⟨rfl, rfl⟩ := hw
  obtain ⟨hP, hD, hK⟩ := tw_join (wr := [(pr, .inl (cP, 2, .inr (.inr (.inr (.inr ((tw_two r0 r1))))))), (r0, .inl (cR, 24, .inr (.inr (.inr (.inr ((fun _ => none))))))), (r1, .inl (cR, 24, .inr (.inr (.inr (.inr ((fun _ => none))))))), (mm, .inr (10, [.int 0, .int 9, .int t5, .int 99, .ref c2, .ref ps2, .ref pr, .int 0, .int 0, .int ((-1)), .ref l2, .long 0])), (ps2, .inr (3, [.int 0, .ref em, .int 0]))]) hP hD hK [] [0, 1, 2, 3, 4] rfl rfl (by decide) (by decide) hk1 hFc ht hvm hB
  have hP : va_P D vwCl [(pr, .inl (cP, 2, .inr (.inr (.inr (.inr ((tw_two r0 r1))))))), (r0, .inl (cR, 24, .inr (.inr (.inr (.inr ((fun _ => none))))))), (r1, .inl (cR, 24, .inr (.inr (.inr (.inr ((fun _ => none))))))), (mm, .inr (10, [.int 0, .int 9, .int t5, .int 99, .ref c2, .ref ps2, .ref pr, .int 0, .int 0, .int ((-1)), .ref l2, .long 0])), (ps2, .inr (3, [.int 0, .ref em, .int 0]))] _ := hP
  have hD : va_D A [(pr, .inl (cP, 2, .inr (.inr (.inr (.inr ((tw_two r0 r1))))))), (r0, .inl (cR, 24, .inr (.inr (.inr (.inr ((fun _ => none))))))), (r1, .inl (cR, 24, .inr (.inr (.inr (.inr ((fun _ => none))))))), (mm, .inr (10, [.int 0, .int 9, .int t5, .int 99, .ref c2, .ref ps2, .ref pr, .int 0, .int 0, .int ((-1)), .ref l2, .long 0])), (ps2, .inr (3, [.int 0, .ref em, .int 0]))] := hD
  have hK : va_K D vwCl [(cP, .array (.object "TowerliftryModel$Car")), (cR, .object "TowerliftryModel$Car")] s := hK
  refine W.widen (k := 13) (n := 52) (Nat.le_refl _) (Nat.le_refl _) ?_
  refine W.eq (g2 := F0 m 34 ls [.int 0, .ref pr]) rfl ?_
  refine tw_aldA hx hb hK hP 0 0 rfl rfl (by unfold vp_in; decide) dX6_forgets_34 ?_
  rw [tw_two0]
  refine W.eq (g2 := F0 m 35 ls [.ref r0]) rfl ?_
  refine lv_iload_n hx hb dX6_forgets_35 rfl (lv_at hl 1 rfl) ?_
  refine lv_null hx hb dX6_forgets_36 ?_
  refine va_astqN hx hb hK hP hD hS 1 1 rfl rfl (by unfold vp_in; decide) dX6_forgets_37 (fun H locs hP hD hS => ?_)
  have hP : va_P D vwCl [(pr, .inl (cP, 2, .inr (.inr (.inr (.inr ((tw_two r0 r1))))))), (r0, .inl (cR, 24, .inr (.inr (.inr (.inr (va_up ((fun _ => none)) (6 : Int32).toNatClampNeg none)))))), (r1, .inl (cR, 24, .inr (.inr (.inr (.inr ((fun _ => none))))))), (mm, .inr (10, [.int 0, .int 9, .int t5, .int 99, .ref c2, .ref ps2, .ref pr, .int 0, .int 0, .int ((-1)), .ref l2, .long 0])), (ps2, .inr (3, [.int 0, .ref em, .int 0]))] _ := hP
  have hD : va_D A [(pr, .inl (cP, 2, .inr (.inr (.inr (.inr ((tw_two r0 r1))))))), (r0, .inl (cR, 24, .inr (.inr (.inr (.inr (va_up ((fun _ => none)) (6 : Int32).toNatClampNeg none)))))), (r1, .inl (cR, 24, .inr (.inr (.inr (.inr ((fun _ => none))))))), (mm, .inr (10, [.int 0, .int 9, .int t5, .int 99, .ref c2, .ref ps2, .ref pr, .int 0, .int 0, .int ((-1)), .ref l2, .long 0])), (ps2, .inr (3, [.int 0, .ref em, .int 0]))] := hD
  rw [tw_upn] at hP hD
  have hP : va_P D vwCl [(pr, .inl (cP, 2, .inr (.inr (.inr (.inr ((tw_two r0 r1))))))), (r0, .inl (cR, 24, .inr (.inr (.inr (.inr ((fun _ => none))))))), (r1, .inl (cR, 24, .inr (.inr (.inr (.inr ((fun _ => none))))))), (mm, .inr (10, [.int 0, .int 9, .int t5, .int 99, .ref c2, .ref ps2, .ref pr, .int 0, .int 0, .int ((-1)), .ref l2, .long 0])), (ps2, .inr (3, [.int 0, .ref em, .int 0]))] _ := hP
  have hD : va_D A [(pr, .inl (cP, 2, .inr (.inr (.inr (.inr ((tw_two r0 r1))))))), (r0, .inl (cR, 24, .inr (.inr (.inr (.inr ((fun _ => none))))))), (r1, .inl (cR, 24, .inr (.inr (.inr (.inr ((fun _ => none))))))), (mm, .inr (10, [.int 0, .int 9, .int t5, .int 99, .ref c2, .ref ps2, .ref pr, .int 0, .int 0, .int ((-1)), .ref l2, .long 0])), (ps2, .inr (3, [.int 0, .ref em, .int 0]))] := hD
  refine lv_iinc (v := 1) (lv' := [(2, .int 1), (1, .int 6), (0, .ref mm)]) hx hb dX6_forgets_38 hl (k := 0) rfl (by decide) (by decide) rfl (fun ls hl => ?_)
  refine lv_goto (tgt := 12) hx hb dX6_forgets_41 (by decide) ?_
  refine lv_iload_n hx hb dX6_forgets_12 rfl (lv_at hl 0 rfl) ?_
  refine lv_iconst (v := 2) hx hb dX6_forgets_13 (by decide) ?_
  refine lv_icmp_ge (tgt := 44) hx hb dX6_forgets_14 (by decide) (fun c9 => absurd c9 (by decide)) (fun c9 => ?_)
  refine lv_aload_n hx hb dX6_forgets_17 rfl (lv_at hl 2 rfl) ?_
  refine lv_iload_n hx hb dX6_forgets_18 rfl (lv_at hl 1 rfl) ?_
  refine lv_iload_n hx hb dX6_forgets_19 rfl (lv_at hl 0 rfl) ?_
  have hPc := hP.sub (ws' := [(mm, .inr (10, [.int 0, .int 9, .int t5, .int 99, .ref c2, .ref ps2, .ref pr, .int 0, .int 0, .int ((-1)), .ref l2, .long 0])), (ps2, .inr (3, [.int 0, .ref em, .int 0]))]) [3, 4] rfl
  have hDc := hD.sub (ws' := [(mm, .inr (10, [.int 0, .int 9, .int t5, .int 99, .ref c2, .ref ps2, .ref pr, .int 0, .int 0, .int ((-1)), .ref l2, .long 0])), (ps2, .inr (3, [.int 0, .ref em, .int 0]))]) [3, 4] (by decide) rfl
  have hKc := hK.sub (tys' := []) [] rfl
  have hFc := va_free (wc := [(mm, .inr (10, [.int 0, .int 9, .int t5, .int 99, .ref c2, .ref ps2, .ref pr, .int 0, .int 0, .int ((-1)), .ref l2, .long 0])), (ps2, .inr (3, [.int 0, .ref em, .int 0]))]) hD hS hA [3, 4] rfl
  refine va_calli (va_runV (As := [.int 6, .int 1]) (rest := []) ⟨hx, hb, hml, hown, hts⟩ (c_X6_isCall l hst em kw kb D mm 6 1 t5 c2 ps2 pr l2 _) (cwV 2 hts gX6_forgets_X6_isCall rfl rfl rfl (by decide +kernel) ⟨(Nat.le_of_ble_eq_true rfl), (Nat.le_of_ble_eq_true rfl)⟩) (tw_preV hF hS hFc hPc hKc hDc (va_recv hKc hPc (ci := 10) (q0 := 0) rfl rfl)) rfl rfl hl.1 rfl (lv_room (Nat.le_of_ble_eq_true rfl)) dX6_forgets_20 ⟨(Nat.le_of_ble_eq_true rfl), (Nat.le_of_ble_eq_true rfl)⟩) hS (fun q _ h => hFc q h) hFc (fun r u t H locs ht hvm hw hB hz1 hk1 hS => ?_)
  obtain ⟨rfl, rfl⟩ := hw
  obtain ⟨hP, hD, hK⟩ := tw_join (wr := [(pr, .inl (cP, 2, .inr (.inr (.inr (.inr ((tw_two r0 r1))))))), (r0, .inl (cR, 24, .inr (.inr (.inr (.inr ((fun _ => none))))))), (r1, .inl (cR, 24, .inr (.inr (.inr (.inr ((fun _ => none)))))))]) hP hD hK [3, 4] [0, 1, 2] rfl rfl (by decide) (by decide) hk1 hFc ht hvm hB
  have hP : va_P D vwCl [(pr, .inl (cP, 2, .inr (.inr (.inr (.inr ((tw_two r0 r1))))))), (r0, .inl (cR, 24, .inr (.inr (.inr (.inr ((fun _ => none))))))), (r1, .inl (cR, 24, .inr (.inr (.inr (.inr ((fun _ => none))))))), (mm, .inr (10, [.int 0, .int 9, .int t5, .int 99, .ref c2, .ref ps2, .ref pr, .int 0, .int 0, .int ((-1)), .ref l2, .long 0])), (ps2, .inr (3, [.int 0, .ref em, .int 0]))] _ := hP
  have hD : va_D A [(pr, .inl (cP, 2, .inr (.inr (.inr (.inr ((tw_two r0 r1))))))), (r0, .inl (cR, 24, .inr (.inr (.inr (.inr ((fun _ => none))))))), (r1, .inl (cR, 24, .inr (.inr (.inr (.inr ((fun _ => none))))))), (mm, .inr (10, [.int 0, .int 9, .int t5, .int 99, .ref c2, .ref ps2, .ref pr, .int 0, .int 0, .int ((-1)), .ref l2, .long 0])), (ps2, .inr (3, [.int 0, .ref em, .int 0]))] := hD
  have hK : va_K D vwCl [(cP, .array (.object "TowerliftryModel$Car")), (cR, .object "TowerliftryModel$Car")] s := hK
  refine W.widen (k := 14) (n := 56) (Nat.le_refl _) (Nat.le_refl _) ?_
  refine W.eq (g2 := F0 m 23 ls [.int 0]) rfl ?_
  refine lv_if_ne (tgt := 38) hx hb dX6_forgets_23 (by decide) (fun c9 => absurd c9 (by decide)) (fun c9 => ?_)
  refine lv_aload_n hx hb dX6_forgets_26 rfl (lv_at hl 2 rfl) ?_
  refine va_get (D := D) (ci := 10) (v := .ref pr) (C := RX6) (T := TX6) (N := 12) hx hb hts hiRX6 hown hK hP 3 rfl rfl 6 (by decide) (hts (.fieldLink RX6 29 "TowerliftryModel" "promises" "[[LTowerliftryModel$Car;") (by decide +kernel)) (fun _ h9 => h9) rfl dX6_forgets_27 ?_
  refine lv_iload_n hx hb dX6_forgets_30 rfl (lv_at hl 0 rfl) ?_
  have hPc := hP.sub (ws' := []) [] rfl
  have hDc := hD.sub (ws' := []) [] (by decide) rfl
  have hKc := hK.sub (tys' := []) [] rfl
  have hFc := va_free (wc := []) hD hS hA [] rfl
  refine va_calli (va_runS (As := [.int 1]) (rest := [.ref pr]) ⟨hx, hb, hml, hown, hts⟩ (c_X6_rowu l hst em kw kb D  _) (va_cwS 1 hts gX6_forgets_X6_row rfl rfl rfl (by decide +kernel) ⟨(Nat.le_of_ble_eq_true rfl), (Nat.le_of_ble_eq_true rfl)⟩) (tw_preS hF hS hFc hPc hKc hDc) rfl rfl hl.1 rfl (lv_room (Nat.le_of_ble_eq_true rfl)) dX6_forgets_31 ⟨(Nat.le_of_ble_eq_true rfl), (Nat.le_of_ble_eq_true rfl)⟩) hS (fun q _ h => hFc q h) hFc (fun r u t H locs ht hvm hw hB hz1 hk1 hS => ?_)
  obtain ⟨rfl, rfl⟩ := hw
  obtain ⟨hP, hD, hK⟩ := tw_join (wr := [(pr, .inl (cP, 2, .inr (.inr (.inr (.inr ((tw_two r0 r1))))))), (r0, .inl (cR, 24, .inr (.inr (.inr (.inr ((fun _ => none))))))), (r1, .inl (cR, 24, .inr (.inr (.inr (.inr ((fun _ => none))))))), (mm, .inr (10, [.int 0, .int 9, .int t5, .int 99, .ref c2, .ref ps2, .ref pr, .int 0, .int 0, .int ((-1)), .ref l2, .long 0])), (ps2, .inr (3, [.int 0, .ref em, .int 0]))]) hP hD hK [] [0, 1, 2, 3, 4] rfl rfl (by decide) (by decide) hk1 hFc ht hvm hB
  have hP : va_P D vwCl [(pr, .inl (cP, 2, .inr (.inr (.inr (.inr ((tw_two r0 r1))))))), (r0, .inl (cR, 24, .inr (.inr (.inr (.inr ((fun _ => none))))))), (r1, .inl (cR, 24, .inr (.inr (.inr (.inr ((fun _ => none))))))), (mm, .inr (10, [.int 0, .int 9, .int t5, .int 99, .ref c2, .ref ps2, .ref pr, .int 0, .int 0, .int ((-1)), .ref l2, .long 0])), (ps2, .inr (3, [.int 0, .ref em, .int 0]))] _ := hP
  have hD : va_D A [(pr, .inl (cP, 2, .inr (.inr (.inr (.inr ((tw_two r0 r1))))))), (r0, .inl (cR, 24, .inr (.inr (.inr (.inr ((fun _ => none))))))), (r1, .inl (cR, 24, .inr (.inr (.inr (.inr ((fun _ => none))))))), (mm, .inr (10, [.int 0, .int 9, .int t5, .int 99, .ref c2, .ref ps2, .ref pr, .int 0, .int 0, .int ((-1)), .ref l2, .long 0])), (ps2, .inr (3, [.int 0, .ref em, .int 0]))] := hD
  have hK : va_K D vwCl [(cP, .array (.object "TowerliftryModel$Car")), (cR, .object "TowerliftryModel$Car")] s := hK
  refine W.widen (k := 14) (n := 56) (Nat.le_refl _) (Nat.le_refl _) ?_
  refine W.eq (g2 := F0 m 34 ls [.int 1, .ref pr]) rfl ?_
  refine tw_aldA hx hb hK hP 0 0 rfl rfl (by unfold vp_in; decide) dX6_forgets_34 ?_
  rw [tw_two1]
  refine W.eq (g2 := F0 m 35 ls [.ref r1]) rfl ?_
  refine lv_iload_n hx hb dX6_forgets_35 rfl (lv_at hl 1 rfl) ?_
  refine lv_null hx hb dX6_forgets_36 ?_
  refine va_astqN hx hb hK hP hD hS 2 1 rfl rfl (by unfold vp_in; decide) dX6_forgets_37 (fun H locs hP hD hS => ?_)
  have hP : va_P D vwCl [(pr, .inl (cP, 2, .inr (.inr (.inr (.inr ((tw_two r0 r1))))))), (r0, .inl (cR, 24, .inr (.inr (.inr (.inr ((fun _ => none))))))), (r1, .inl (cR, 24, .inr (.inr (.inr (.inr (va_up ((fun _ => none)) (6 : Int32).toNatClampNeg none)))))), (mm, .inr (10, [.int 0, .int 9, .int t5, .int 99, .ref c2, .ref ps2, .ref pr, .int 0, .int 0, .int ((-1)), .ref l2, .long 0])), (ps2, .inr (3, [.int 0, .ref em, .int 0]))] _ := hP
  have hD : va_D A [(pr, .inl (cP, 2, .inr (.inr (.inr (.inr ((tw_two r0 r1))))))), (r0, .inl (cR, 24, .inr (.inr (.inr (.inr ((fun _ => none))))))), (r1, .inl (cR, 24, .inr (.inr (.inr (.inr (va_up ((fun _ => none)) (6 : Int32).toNatClampNeg none)))))), (mm, .inr (10, [.int 0, .int 9, .int t5, .int 99, .ref c2, .ref ps2, .ref pr, .int 0, .int 0, .int ((-1)), .ref l2, .long 0])), (ps2, .inr (3, [.int 0, .ref em, .int 0]))] := hD
  rw [tw_upn] at hP hD
  have hP : va_P D vwCl [(pr, .inl (cP, 2, .inr (.inr (.inr (.inr ((tw_two r0 r1))))))), (r0, .inl (cR, 24, .inr (.inr (.inr (.inr ((fun _ => none))))))), (r1, .inl (cR, 24, .inr (.inr (.inr (.inr ((fun _ => none))))))), (mm, .inr (10, [.int 0, .int 9, .int t5, .int 99, .ref c2, .ref ps2, .ref pr, .int 0, .int 0, .int ((-1)), .ref l2, .long 0])), (ps2, .inr (3, [.int 0, .ref em, .int 0]))] _ := hP
  have hD : va_D A [(pr, .inl (cP, 2, .inr (.inr (.inr (.inr ((tw_two r0 r1))))))), (r0, .inl (cR, 24, .inr (.inr (.inr (.inr ((fun _ => none))))))), (r1, .inl (cR, 24, .inr (.inr (.inr (.inr ((fun _ => none))))))), (mm, .inr (10, [.int 0, .int 9, .int t5, .int 99, .ref c2, .ref ps2, .ref pr, .int 0, .int 0, .int ((-1)), .ref l2, .long 0])), (ps2, .inr (3, [.int 0, .ref em, .int 0]))] := hD
  refine lv_iinc (v := 3) (lv' := [(2, .int 3), (1, .int 6), (0, .ref mm)]) hx hb dX6_forgets_38 hl (k := 0) rfl (by decide) (by decide) rfl (fun ls hl => ?_)
  refine lv_goto (tgt := 12) hx hb dX6_forgets_41 (by decide) ?_
  refine lv_iload_n hx hb dX6_forgets_12 rfl (lv_at hl 0 rfl) ?_
  refine lv_iconst (v := 2) hx hb dX6_forgets_13 (by decide) ?_
  refine lv_icmp_ge (tgt := 44) hx hb dX6_forgets_14 (by decide) (fun c9 => ?_) (fun c9 => absurd c9 (by decide))
  refine lv_iinc (v := 7) (lv' := [(1, .int 7), (2, .int 3), (0, .ref mm)]) hx hb dX6_forgets_44 hl (k := 1) rfl (by decide) (by decide) rfl (fun ls hl => ?_)
  refine lv_goto (tgt := 2) hx hb dX6_forgets_47 (by decide) ?_
  refine lv_iload_n hx hb dX6_forgets_2 rfl (lv_at hl 0 rfl) ?_
  refine lv_aload_n hx hb dX6_forgets_3 rfl (lv_at hl 2 rfl) ?_
  refine va_get (D := D) (ci := 10) (v := .int 9) (C := RX6) (T := TX6) (N := 12) hx hb hts hiRX6 hown hK hP 3 rfl rfl 1 (by decide) (hts (.fieldLink RX6 7 "TowerliftryModel" "top" "I") (by decide +kernel)) (fun _ h9 => h9) rfl dX6_forgets_4 ?_
  refine lv_icmp_gt (tgt := 50) hx hb dX6_forgets_7 (by decide) (fun c9 => absurd c9 (by decide)) (fun c9 => ?_)
  refine lv_iconst (v := (-1)) hx hb dX6_forgets_10 (by decide) ?_
  refine lv_istore_n (lv' := [(2, .int ((-1))), (1, .int 7), (0, .ref mm)]) hx hb dX6_forgets_11 rfl hl (by decide) rfl (fun ls hl => ?_)
  refine lv_iload_n hx hb dX6_forgets_12 rfl (lv_at hl 0 rfl) ?_
  refine lv_iconst (v := 2) hx hb dX6_forgets_13 (by decide) ?_
  refine lv_icmp_ge (tgt := 44) hx hb dX6_forgets_14 (by decide) (fun c9 => absurd c9 (by decide)) (fun c9 => ?_)
  refine lv_aload_n hx hb dX6_forgets_17 rfl (lv_at hl 2 rfl) ?_
  refine lv_iload_n hx hb dX6_forgets_18 rfl (lv_at hl 1 rfl) ?_
  refine lv_iload_n hx hb dX6_forgets_19 rfl (lv_at hl 0 rfl) ?_
  have hPc := hP.sub (ws' := [(mm, .inr (10, [.int 0, .int 9, .int t5, .int 99, .ref c2, .ref ps2, .ref pr, .int 0, .int 0, .int ((-1)), .ref l2, .long 0])), (ps2, .inr (3, [.int 0, .ref em, .int 0]))]) [3, 4] rfl
  have hDc := hD.sub (ws' := [(mm, .inr (10, [.int 0, .int 9, .int t5, .int 99, .ref c2, .ref ps2, .ref pr, .int 0, .int 0, .int ((-1)), .ref l2, .long 0])), (ps2, .inr (3, [.int 0, .ref em, .int 0]))]) [3, 4] (by decide) rfl
  have hKc := hK.sub (tys' := []) [] rfl
  have hFc := va_free (wc := [(mm, .inr (10, [.int 0, .int 9, .int t5, .int 99, .ref c2, .ref ps2, .ref pr, .int 0, .int 0, .int ((-1)), .ref l2, .long 0])), (ps2, .inr (3, [.int 0, .ref em, .int 0]))]) hD hS hA [3, 4] rfl
  refine va_calli (va_runV (As := [.int 7, .int ((-1))]) (rest := []) ⟨hx, hb, hml, hown, hts⟩ (c_X6_isCall l hst em kw kb D mm 7 ((-1)) t5 c2 ps2 pr l2 _) (cwV 2 hts gX6_forgets_X6_isCall rfl rfl rfl (by decide +kernel) ⟨(Nat.le_of_ble_eq_true rfl), (Nat.le_of_ble_eq_true rfl)⟩) (tw_preV hF hS hFc hPc hKc hDc (va_recv hKc hPc (ci := 10) (q0 := 0) rfl rfl)) rfl rfl hl.1 rfl (lv_room (Nat.le_of_ble_eq_true rfl)) dX6_forgets_20 ⟨(Nat.le_of_ble_eq_true rfl), (Nat.le_of_ble_eq_true rfl)⟩) hS (fun q _ h => hFc q h) hFc (fun r u t H locs ht hvm hw hB hz1 hk1 hS => ?_)
  obtain ⟨rfl, rfl⟩ := hw
  obtain ⟨hP, hD, hK⟩ := tw_join (wr := [(pr, .inl (cP, 2, .inr (.inr (.inr (.inr ((tw_two r0 r1))))))), (r0, .inl (cR, 24, .inr (.inr (.inr (.inr ((fun _ => none))))))), (r1, .inl (cR, 24, .inr (.inr (.inr (.inr ((fun _ => none)))))))]) hP hD hK [3, 4] [0, 1, 2] rfl rfl (by decide) (by decide) hk1 hFc ht hvm hB
  have hP : va_P D vwCl [(pr, .inl (cP, 2, .inr (.inr (.inr (.inr ((tw_two r0 r1))))))), (r0, .inl (cR, 24, .inr (.inr (.inr (.inr ((fun _ => none))))))), (r1, .inl (cR, 24, .inr (.inr (.inr (.inr ((fun _ => none))))))), (mm, .inr (10, [.int 0, .int 9, .int t5, .int 99, .ref c2, .ref ps2, .ref pr, .int 0, .int 0, .int ((-1)), .ref l2, .long 0])), (ps2, .inr (3, [.int 0, .ref em, .int 0]))] _ := hP
  have hD : va_D A [(pr, .inl (cP, 2, .inr (.inr (.inr (.inr ((tw_two r0 r1))))))), (r0, .inl (cR, 24, .inr (.inr (.inr (.inr ((fun _ => none))))))), (r1, .inl (cR, 24, .inr (.inr (.inr (.inr ((fun _ => none))))))), (mm, .inr (10, [.int 0, .int 9, .int t5, .int 99, .ref c2, .ref ps2, .ref pr, .int 0, .int 0, .int ((-1)), .ref l2, .long 0])), (ps2, .inr (3, [.int 0, .ref em, .int 0]))] := hD
  have hK : va_K D vwCl [(cP, .array (.object "TowerliftryModel$Car")), (cR, .object "TowerliftryModel$Car")] s := hK
  refine W.widen (k := 15) (n := 60) (Nat.le_refl _) (Nat.le_refl _) ?_
  refine W.eq (g2 := F0 m 23 ls [.int 0]) rfl ?_
  refine lv_if_ne (tgt := 38) hx hb dX6_forgets_23 (by decide) (fun c9 => absurd c9 (by decide)) (fun c9 => ?_)
  refine lv_aload_n hx hb dX6_forgets_26 rfl (lv_at hl 2 rfl) ?_
  refine va_get (D := D) (ci := 10) (v := .ref pr) (C := RX6) (T := TX6) (N := 12) hx hb hts hiRX6 hown hK hP 3 rfl rfl 6 (by decide) (hts (.fieldLink RX6 29 "TowerliftryModel" "promises" "[[LTowerliftryModel$Car;") (by decide +kernel)) (fun _ h9 => h9) rfl dX6_forgets_27 ?_
  refine lv_iload_n hx hb dX6_forgets_30 rfl (lv_at hl 0 rfl) ?_
  have hPc := hP.sub (ws' := []) [] rfl
  have hDc := hD.sub (ws' := []) [] (by decide) rfl
  have hKc := hK.sub (tys' := []) [] rfl
  have hFc := va_free (wc := []) hD hS hA [] rfl
  refine va_calli (va_runS (As := [.int ((-1))]) (rest := [.ref pr]) ⟨hx, hb, hml, hown, hts⟩ (c_X6_rowd l hst em kw kb D  _) (va_cwS 1 hts gX6_forgets_X6_row rfl rfl rfl (by decide +kernel) ⟨(Nat.le_of_ble_eq_true rfl), (Nat.le_of_ble_eq_true rfl)⟩) (tw_preS hF hS hFc hPc hKc hDc) rfl rfl hl.1 rfl (lv_room (Nat.le_of_ble_eq_true rfl)) dX6_forgets_31 ⟨(Nat.le_of_ble_eq_true rfl), (Nat.le_of_ble_eq_true rfl)⟩) hS (fun q _ h => hFc q h) hFc (fun r u t H locs ht hvm hw hB hz1 hk1 hS => ?_)
  obtain ⟨rfl, rfl⟩ := hw
  obtain ⟨hP, hD, hK⟩ := tw_join (wr := [(pr, .inl (cP, 2, .inr (.inr (.inr (.inr ((tw_two r0 r1))))))), (r0, .inl (cR, 24, .inr (.inr (.inr (.inr ((fun _ => none))))))), (r1, .inl (cR, 24, .inr (.inr (.inr (.inr ((fun _ => none))))))), (mm, .inr (10, [.int 0, .int 9, .int t5, .int 99, .ref c2, .ref ps2, .ref pr, .int 0, .int 0, .int ((-1)), .ref l2, .long 0])), (ps2, .inr (3, [.int 0, .ref em, .int 0]))]) hP hD hK [] [0, 1, 2, 3, 4] rfl rfl (by decide) (by decide) hk1 hFc ht hvm hB
  have hP : va_P D vwCl [(pr, .inl (cP, 2, .inr (.inr (.inr (.inr ((tw_two r0 r1))))))), (r0, .inl (cR, 24, .inr (.inr (.inr (.inr ((fun _ => none))))))), (r1, .inl (cR, 24, .inr (.inr (.inr (.inr ((fun _ => none))))))), (mm, .inr (10, [.int 0, .int 9, .int t5, .int 99, .ref c2, .ref ps2, .ref pr, .int 0, .int 0, .int ((-1)), .ref l2, .long 0])), (ps2, .inr (3, [.int 0, .ref em, .int 0]))] _ := hP
  have hD : va_D A [(pr, .inl (cP, 2, .inr (.inr (.inr (.inr ((tw_two r0 r1))))))), (r0, .inl (cR, 24, .inr (.inr (.inr (.inr ((fun _ => none))))))), (r1, .inl (cR, 24, .inr (.inr (.inr (.inr ((fun _ => none))))))), (mm, .inr (10, [.int 0, .int 9, .int t5, .int 99, .ref c2, .ref ps2, .ref pr, .int 0, .int 0, .int ((-1)), .ref l2, .long 0])), (ps2, .inr (3, [.int 0, .ref em, .int 0]))] := hD
  have hK : va_K D vwCl [(cP, .array (.object "TowerliftryModel$Car")), (cR, .object "TowerliftryModel$Car")] s := hK
  refine W.widen (k := 15) (n := 60) (Nat.le_refl _) (Nat.le_refl _) ?_
  refine W.eq (g2 := F0 m 34 ls [.int 0, .ref pr]) rfl ?_
  refine tw_aldA hx hb hK hP 0 0 rfl rfl (by unfold vp_in; decide) dX6_forgets_34 ?_
  rw [tw_two0]
  refine W.eq (g2 := F0 m 35 ls [.ref r0]) rfl ?_
  refine lv_iload_n hx hb dX6_forgets_35 rfl (lv_at hl 1 rfl) ?_
  refine lv_null hx hb dX6_forgets_36 ?_
  refine va_astqN hx hb hK hP hD hS 1 1 rfl rfl (by unfold vp_in; decide) dX6_forgets_37 (fun H locs hP hD hS => ?_)
  have hP : va_P D vwCl [(pr, .inl (cP, 2, .inr (.inr (.inr (.inr ((tw_two r0 r1))))))), (r0, .inl (cR, 24, .inr (.inr (.inr (.inr (va_up ((fun _ => none)) (7 : Int32).toNatClampNeg none)))))), (r1, .inl (cR, 24, .inr (.inr (.inr (.inr ((fun _ => none))))))), (mm, .inr (10, [.int 0, .int 9, .int t5, .int 99, .ref c2, .ref ps2, .ref pr, .int 0, .int 0, .int ((-1)), .ref l2, .long 0])), (ps2, .inr (3, [.int 0, .ref em, .int 0]))] _ := hP
  have hD : va_D A [(pr, .inl (cP, 2, .inr (.inr (.inr (.inr ((tw_two r0 r1))))))), (r0, .inl (cR, 24, .inr (.inr (.inr (.inr (va_up ((fun _ => none)) (7 : Int32).toNatClampNeg none)))))), (r1, .inl (cR, 24, .inr (.inr (.inr (.inr ((fun _ => none))))))), (mm, .inr (10, [.int 0, .int 9, .int t5, .int 99, .ref c2, .ref ps2, .ref pr, .int 0, .int 0, .int ((-1)), .ref l2, .long 0])), (ps2, .inr (3, [.int 0, .ref em, .int 0]))] := hD
  rw [tw_upn] at hP hD
  have hP : va_P D vwCl [(pr, .inl (cP, 2, .inr (.inr (.inr (.inr ((tw_two r0 r1))))))), (r0, .inl (cR, 24, .inr (.inr (.inr (.inr ((fun _ => none))))))), (r1, .inl (cR, 24, .inr (.inr (.inr (.inr ((fun _ => none))))))), (mm, .inr (10, [.int 0, .int 9, .int t5, .int 99, .ref c2, .ref ps2, .ref pr, .int 0, .int 0, .int ((-1)), .ref l2, .long 0])), (ps2, .inr (3, [.int 0, .ref em, .int 0]))] _ := hP
  have hD : va_D A [(pr, .inl (cP, 2, .inr (.inr (.inr (.inr ((tw_two r0 r1))))))), (r0, .inl (cR, 24, .inr (.inr (.inr (.inr ((fun _ => none))))))), (r1, .inl (cR, 24, .inr (.inr (.inr (.inr ((fun _ => none))))))), (mm, .inr (10, [.int 0, .int 9, .int t5, .int 99, .ref c2, .ref ps2, .ref pr, .int 0, .int 0, .int ((-1)), .ref l2, .long 0])), (ps2, .inr (3, [.int 0, .ref em, .int 0]))] := hD
  refine lv_iinc (v := 1) (lv' := [(2, .int 1), (1, .int 7), (0, .ref mm)]) hx hb dX6_forgets_38 hl (k := 0) rfl (by decide) (by decide) rfl (fun ls hl => ?_)
  refine lv_goto (tgt := 12) hx hb dX6_forgets_41 (by decide) ?_
  refine lv_iload_n hx hb dX6_forgets_12 rfl (lv_at hl 0 rfl) ?_
  refine lv_iconst (v := 2) hx hb dX6_forgets_13 (by decide) ?_
  refine lv_icmp_ge (tgt := 44) hx hb dX6_forgets_14 (by decide) (fun c9 => absurd c9 (by decide)) (fun c9 => ?_)
  refine lv_aload_n hx hb dX6_forgets_17 rfl (lv_at hl 2 rfl) ?_
  refine lv_iload_n hx hb dX6_forgets_18 rfl (lv_at hl 1 rfl) ?_
  refine lv_iload_n hx hb dX6_forgets_19 rfl (lv_at hl 0 rfl) ?_
  have hPc := hP.sub (ws' := [(mm, .inr (10, [.int 0, .int 9, .int t5, .int 99, .ref c2, .ref ps2, .ref pr, .int 0, .int 0, .int ((-1)), .ref l2, .long 0])), (ps2, .inr (3, [.int 0, .ref em, .int 0]))]) [3, 4] rfl
  have hDc := hD.sub (ws' := [(mm, .inr (10, [.int 0, .int 9, .int t5, .int 99, .ref c2, .ref ps2, .ref pr, .int 0, .int 0, .int ((-1)), .ref l2, .long 0])), (ps2, .inr (3, [.int 0, .ref em, .int 0]))]) [3, 4] (by decide) rfl
  have hKc := hK.sub (tys' := []) [] rfl
  have hFc := va_free (wc := [(mm, .inr (10, [.int 0, .int 9, .int t5, .int 99, .ref c2, .ref ps2, .ref pr, .int 0, .int 0, .int ((-1)), .ref l2, .long 0])), (ps2, .inr (3, [.int 0, .ref em, .int 0]))]) hD hS hA [3, 4] rfl
  refine va_calli (va_runV (As := [.int 7, .int 1]) (rest := []) ⟨hx, hb, hml, hown, hts⟩ (c_X6_isCall l hst em kw kb D mm 7 1 t5 c2 ps2 pr l2 _) (cwV 2 hts gX6_forgets_X6_isCall rfl rfl rfl (by decide +kernel) ⟨(Nat.le_of_ble_eq_true rfl), (Nat.le_of_ble_eq_true rfl)⟩) (tw_preV hF hS hFc hPc hKc hDc (va_recv hKc hPc (ci := 10) (q0 := 0) rfl rfl)) rfl rfl hl.1 rfl (lv_room (Nat.le_of_ble_eq_true rfl)) dX6_forgets_20 ⟨(Nat.le_of_ble_eq_true rfl), (Nat.le_of_ble_eq_true rfl)⟩) hS (fun q _ h => hFc q h) hFc (fun r u t H locs ht hvm hw hB hz1 hk1 hS => ?_)
  obtain ⟨rfl, rfl⟩ := hw
  obtain ⟨hP, hD, hK⟩ := tw_join (wr := [(pr, .inl (cP, 2, .inr (.inr (.inr (.inr ((tw_two r0 r1))))))), (r0, .inl (cR, 24, .inr (.inr (.inr (.inr ((fun _ => none))))))), (r1, .inl (cR, 24, .inr (.inr (.inr (.inr ((fun _ => none)))))))]) hP hD hK [3, 4] [0, 1, 2] rfl rfl (by decide) (by decide) hk1 hFc ht hvm hB
  have hP : va_P D vwCl [(pr, .inl (cP, 2, .inr (.inr (.inr (.inr ((tw_two r0 r1))))))), (r0, .inl (cR, 24, .inr (.inr (.inr (.inr ((fun _ => none))))))), (r1, .inl (cR, 24, .inr (.inr (.inr (.inr ((fun _ => none))))))), (mm, .inr (10, [.int 0, .int 9, .int t5, .int 99, .ref c2, .ref ps2, .ref pr, .int 0, .int 0, .int ((-1)), .ref l2, .long 0])), (ps2, .inr (3, [.int 0, .ref em, .int 0]))] _ := hP
  have hD : va_D A [(pr, .inl (cP, 2, .inr (.inr (.inr (.inr ((tw_two r0 r1))))))), (r0, .inl (cR, 24, .inr (.inr (.inr (.inr ((fun _ => none))))))), (r1, .inl (cR, 24, .inr (.inr (.inr (.inr ((fun _ => none))))))), (mm, .inr (10, [.int 0, .int 9, .int t5, .int 99, .ref c2, .ref ps2, .ref pr, .int 0, .int 0, .int ((-1)), .ref l2, .long 0])), (ps2, .inr (3, [.int 0, .ref em, .int 0]))] := hD
  have hK : va_K D vwCl [(cP, .array (.object "TowerliftryModel$Car")), (cR, .object "TowerliftryModel$Car")] s := hK
  refine W.widen (k := 16) (n := 64) (Nat.le_refl _) (Nat.le_refl _) ?_
  refine W.eq (g2 := F0 m 23 ls [.int 0]) rfl ?_
  refine lv_if_ne (tgt := 38) hx hb dX6_forgets_23 (by decide) (fun c9 => absurd c9 (by decide)) (fun c9 => ?_)
  refine lv_aload_n hx hb dX6_forgets_26 rfl (lv_at hl 2 rfl) ?_
  refine va_get (D := D) (ci := 10) (v := .ref pr) (C := RX6) (T := TX6) (N := 12) hx hb hts hiRX6 hown hK hP 3 rfl rfl 6 (by decide) (hts (.fieldLink RX6 29 "TowerliftryModel" "promises" "[[LTowerliftryModel$Car;") (by decide +kernel)) (fun _ h9 => h9) rfl dX6_forgets_27 ?_
  refine lv_iload_n hx hb dX6_forgets_30 rfl (lv_at hl 0 rfl) ?_
  have hPc := hP.sub (ws' := []) [] rfl
  have hDc := hD.sub (ws' := []) [] (by decide) rfl
  have hKc := hK.sub (tys' := []) [] rfl
  have hFc := va_free (wc := []) hD hS hA [] rfl
  refine va_calli (va_runS (As := [.int 1]) (rest := [.ref pr]) ⟨hx, hb, hml, hown, hts⟩ (c_X6_rowu l hst em kw kb D  _) (va_cwS 1 hts gX6_forgets_X6_row rfl rfl rfl (by decide +kernel) ⟨(Nat.le_of_ble_eq_true rfl), (Nat.le_of_ble_eq_true rfl)⟩) (tw_preS hF hS hFc hPc hKc hDc) rfl rfl hl.1 rfl (lv_room (Nat.le_of_ble_eq_true rfl)) dX6_forgets_31 ⟨(Nat.le_of_ble_eq_true rfl), (Nat.le_of_ble_eq_true rfl)⟩) hS (fun q _ h => hFc q h) hFc (fun r u t H locs ht hvm hw hB hz1 hk1 hS => ?_)
  obtain ⟨rfl, rfl⟩ := hw
  obtain ⟨hP, hD, hK⟩ := tw_join (wr := [(pr, .inl (cP, 2, .inr (.inr (.inr (.inr ((tw_two r0 r1))))))), (r0, .inl (cR, 24, .inr (.inr (.inr (.inr ((fun _ => none))))))), (r1, .inl (cR, 24, .inr (.inr (.inr (.inr ((fun _ => none))))))), (mm, .inr (10, [.int 0, .int 9, .int t5, .int 99, .ref c2, .ref ps2, .ref pr, .int 0, .int 0, .int ((-1)), .ref l2, .long 0])), (ps2, .inr (3, [.int 0, .ref em, .int 0]))]) hP hD hK [] [0, 1, 2, 3, 4] rfl rfl (by decide) (by decide) hk1 hFc ht hvm hB
  have hP : va_P D vwCl [(pr, .inl (cP, 2, .inr (.inr (.inr (.inr ((tw_two r0 r1))))))), (r0, .inl (cR, 24, .inr (.inr (.inr (.inr ((fun _ => none))))))), (r1, .inl (cR, 24, .inr (.inr (.inr (.inr ((fun _ => none))))))), (mm, .inr (10, [.int 0, .int 9, .int t5, .int 99, .ref c2, .ref ps2, .ref pr, .int 0, .int 0, .int ((-1)), .ref l2, .long 0])), (ps2, .inr (3, [.int 0, .ref em, .int 0]))] _ := hP
  have hD : va_D A [(pr, .inl (cP, 2, .inr (.inr (.inr (.inr ((tw_two r0 r1))))))), (r0, .inl (cR, 24, .inr (.inr (.inr (.inr ((fun _ => none))))))), (r1, .inl (cR, 24, .inr (.inr (.inr (.inr ((fun _ => none))))))), (mm, .inr (10, [.int 0, .int 9, .int t5, .int 99, .ref c2, .ref ps2, .ref pr, .int 0, .int 0, .int ((-1)), .ref l2, .long 0])), (ps2, .inr (3, [.int 0, .ref em, .int 0]))] := hD
  have hK : va_K D vwCl [(cP, .array (.object "TowerliftryModel$Car")), (cR, .object "TowerliftryModel$Car")] s := hK
  refine W.widen (k := 16) (n := 64) (Nat.le_refl _) (Nat.le_refl _) ?_
  refine W.eq (g2 := F0 m 34 ls [.int 1, .ref pr]) rfl ?_
  refine tw_aldA hx hb hK hP 0 0 rfl rfl (by unfold vp_in; decide) dX6_forgets_34 ?_
  rw [tw_two1]
  refine W.eq (g2 := F0 m 35 ls [.ref r1]) rfl ?_
  refine lv_iload_n hx hb dX6_forgets_35 rfl (lv_at hl 1 rfl) ?_
  refine lv_null hx hb dX6_forgets_36 ?_
  refine va_astqN hx hb hK hP hD hS 2 1 rfl rfl (by unfold vp_in; decide) dX6_forgets_37 (fun H locs hP hD hS => ?_)
  have hP : va_P D vwCl [(pr, .inl (cP, 2, .inr (.inr (.inr (.inr ((tw_two r0 r1))))))), (r0, .inl (cR, 24, .inr (.inr (.inr (.inr ((fun _ => none))))))), (r1, .inl (cR, 24, .inr (.inr (.inr (.inr (va_up ((fun _ => none)) (7 : Int32).toNatClampNeg none)))))), (mm, .inr (10, [.int 0, .int 9, .int t5, .int 99, .ref c2, .ref ps2, .ref pr, .int 0, .int 0, .int ((-1)), .ref l2, .long 0])), (ps2, .inr (3, [.int 0, .ref em, .int 0]))] _ := hP
  have hD : va_D A [(pr, .inl (cP, 2, .inr (.inr (.inr (.inr ((tw_two r0 r1))))))), (r0, .inl (cR, 24, .inr (.inr (.inr (.inr ((fun _ => none))))))), (r1, .inl (cR, 24, .inr (.inr (.inr (.inr (va_up ((fun _ => none)) (7 : Int32).toNatClampNeg none)))))), (mm, .inr (10, [.int 0, .int 9, .int t5, .int 99, .ref c2, .ref ps2, .ref pr, .int 0, .int 0, .int ((-1)), .ref l2, .long 0])), (ps2, .inr (3, [.int 0, .ref em, .int 0]))] := hD
  rw [tw_upn] at hP hD
  have hP : va_P D vwCl [(pr, .inl (cP, 2, .inr (.inr (.inr (.inr ((tw_two r0 r1))))))), (r0, .inl (cR, 24, .inr (.inr (.inr (.inr ((fun _ => none))))))), (r1, .inl (cR, 24, .inr (.inr (.inr (.inr ((fun _ => none))))))), (mm, .inr (10, [.int 0, .int 9, .int t5, .int 99, .ref c2, .ref ps2, .ref pr, .int 0, .int 0, .int ((-1)), .ref l2, .long 0])), (ps2, .inr (3, [.int 0, .ref em, .int 0]))] _ := hP
  have hD : va_D A [(pr, .inl (cP, 2, .inr (.inr (.inr (.inr ((tw_two r0 r1))))))), (r0, .inl (cR, 24, .inr (.inr (.inr (.inr ((fun _ => none))))))), (r1, .inl (cR, 24, .inr (.inr (.inr (.inr ((fun _ => none))))))), (mm, .inr (10, [.int 0, .int 9, .int t5, .int 99, .ref c2, .ref ps2, .ref pr, .int 0, .int 0, .int ((-1)), .ref l2, .long 0])), (ps2, .inr (3, [.int 0, .ref em, .int 0]))] := hD
  refine lv_iinc (v := 3) (lv' := [(2, .int 3), (1, .int 7), (0, .ref mm)]) hx hb dX6_forgets_38 hl (k := 0) rfl (by decide) (by decide) rfl (fun ls hl => ?_)
  refine lv_goto (tgt := 12) hx hb dX6_forgets_41 (by decide) ?_
  refine lv_iload_n hx hb dX6_forgets_12 rfl (lv_at hl 0 rfl) ?_
  refine lv_iconst (v := 2) hx hb dX6_forgets_13 (by decide) ?_
  refine lv_icmp_ge (tgt := 44) hx hb dX6_forgets_14 (by decide) (fun c9 => ?_) (fun c9 => absurd c9 (by decide))
  refine lv_iinc (v := 8) (lv' := [(1, .int 8), (2, .int 3), (0, .ref mm)]) hx hb dX6_forgets_44 hl (k := 1) rfl (by decide) (by decide) rfl (fun ls hl => ?_)
  refine lv_goto (tgt := 2) hx hb dX6_forgets_47 (by decide) ?_
  refine lv_iload_n hx hb dX6_forgets_2 rfl (lv_at hl 0 rfl) ?_
  refine lv_aload_n hx hb dX6_forgets_3 rfl (lv_at hl 2 rfl) ?_
  refine va_get (D := D) (ci := 10) (v := .int 9) (C := RX6) (T := TX6) (N := 12) hx hb hts hiRX6 hown hK hP 3 rfl rfl 1 (by decide) (hts (.fieldLink RX6 7 "TowerliftryModel" "top" "I") (by decide +kernel)) (fun _ h9 => h9) rfl dX6_forgets_4 ?_
  refine lv_icmp_gt (tgt := 50) hx hb dX6_forgets_7 (by decide) (fun c9 => absurd c9 (by decide)) (fun c9 => ?_)
  refine lv_iconst (v := (-1)) hx hb dX6_forgets_10 (by decide) ?_
  refine lv_istore_n (lv' := [(2, .int ((-1))), (1, .int 8), (0, .ref mm)]) hx hb dX6_forgets_11 rfl hl (by decide) rfl (fun ls hl => ?_)
  refine lv_iload_n hx hb dX6_forgets_12 rfl (lv_at hl 0 rfl) ?_
  refine lv_iconst (v := 2) hx hb dX6_forgets_13 (by decide) ?_
  refine lv_icmp_ge (tgt := 44) hx hb dX6_forgets_14 (by decide) (fun c9 => absurd c9 (by decide)) (fun c9 => ?_)
  refine lv_aload_n hx hb dX6_forgets_17 rfl (lv_at hl 2 rfl) ?_
  refine lv_iload_n hx hb dX6_forgets_18 rfl (lv_at hl 1 rfl) ?_
  refine lv_iload_n hx hb dX6_forgets_19 rfl (lv_at hl 0 rfl) ?_
  have hPc := hP.sub (ws' := [(mm, .inr (10, [.int 0, .int 9, .int t5, .int 99, .ref c2, .ref ps2, .ref pr, .int 0, .int 0, .int ((-1)), .ref l2, .long 0])), (ps2, .inr (3, [.int 0, .ref em, .int 0]))]) [3, 4] rfl
  have hDc := hD.sub (ws' := [(mm, .inr (10, [.int 0, .int 9, .int t5, .int 99, .ref c2, .ref ps2, .ref pr, .int 0, .int 0, .int ((-1)), .ref l2, .long 0])), (ps2, .inr (3, [.int 0, .ref em, .int 0]))]) [3, 4] (by decide) rfl
  have hKc := hK.sub (tys' := []) [] rfl
  have hFc := va_free (wc := [(mm, .inr (10, [.int 0, .int 9, .int t5, .int 99, .ref c2, .ref ps2, .ref pr, .int 0, .int 0, .int ((-1)), .ref l2, .long 0])), (ps2, .inr (3, [.int 0, .ref em, .int 0]))]) hD hS hA [3, 4] rfl
  refine va_calli (va_runV (As := [.int 8, .int ((-1))]) (rest := []) ⟨hx, hb, hml, hown, hts⟩ (c_X6_isCall l hst em kw kb D mm 8 ((-1)) t5 c2 ps2 pr l2 _) (cwV 2 hts gX6_forgets_X6_isCall rfl rfl rfl (by decide +kernel) ⟨(Nat.le_of_ble_eq_true rfl), (Nat.le_of_ble_eq_true rfl)⟩) (tw_preV hF hS hFc hPc hKc hDc (va_recv hKc hPc (ci := 10) (q0 := 0) rfl rfl)) rfl rfl hl.1 rfl (lv_room (Nat.le_of_ble_eq_true rfl)) dX6_forgets_20 ⟨(Nat.le_of_ble_eq_true rfl), (Nat.le_of_ble_eq_true rfl)⟩) hS (fun q _ h => hFc q h) hFc (fun r u t H locs ht hvm hw hB hz1 hk1 hS => ?_)
  obtain ⟨rfl, rfl⟩ := hw
  obtain ⟨hP, hD, hK⟩ := tw_join (wr := [(pr, .inl (cP, 2, .inr (.inr (.inr (.inr ((tw_two r0 r1))))))), (r0, .inl (cR, 24, .inr (.inr (.inr (.inr ((fun _ => none))))))), (r1, .inl (cR, 24, .inr (.inr (.inr (.inr ((fun _ => none)))))))]) hP hD hK [3, 4] [0, 1, 2] rfl rfl (by decide) (by decide) hk1 hFc ht hvm hB
  have hP : va_P D vwCl [(pr, .inl (cP, 2, .inr (.inr (.inr (.inr ((tw_two r0 r1))))))), (r0, .inl (cR, 24, .inr (.inr (.inr (.inr ((fun _ => none))))))), (r1, .inl (cR, 24, .inr (.inr (.inr (.inr ((fun _ => none))))))), (mm, .inr (10, [.int 0, .int 9, .int t5, .int 99, .ref c2, .ref ps2, .ref pr, .int 0, .int 0, .int ((-1)), .ref l2, .long 0])), (ps2, .inr (3, [.int 0, .ref em, .int 0]))] _ := hP
  have hD : va_D A [(pr, .inl (cP, 2, .inr (.inr (.inr (.inr ((tw_two r0 r1))))))), (r0, .inl (cR, 24, .inr (.inr (.inr (.inr ((fun _ => none))))))), (r1, .inl (cR, 24, .inr (.inr (.inr (.inr ((fun _ => none))))))), (mm, .inr (10, [.int 0, .int 9, .int t5, .int 99, .ref c2, .ref ps2, .ref pr, .int 0, .int 0, .int ((-1)), .ref l2, .long 0])), (ps2, .inr (3, [.int 0, .ref em, .int 0]))] := hD
  have hK : va_K D vwCl [(cP, .array (.object "TowerliftryModel$Car")), (cR, .object "TowerliftryModel$Car")] s := hK
  refine W.widen (k := 17) (n := 68) (Nat.le_refl _) (Nat.le_refl _) ?_
  refine W.eq (g2 := F0 m 23 ls [.int 0]) rfl ?_
  refine lv_if_ne (tgt := 38) hx hb dX6_forgets_23 (by decide) (fun c9 => absurd c9 (by decide)) (fun c9 => ?_)
  refine lv_aload_n hx hb dX6_forgets_26 rfl (lv_at hl 2 rfl) ?_
  refine va_get (D := D) (ci := 10) (v := .ref pr) (C := RX6) (T := TX6) (N := 12) hx hb hts hiRX6 hown hK hP 3 rfl rfl 6 (by decide) (hts (.fieldLink RX6 29 "TowerliftryModel" "promises" "[[LTowerliftryModel$Car;") (by decide +kernel)) (fun _ h9 => h9) rfl dX6_forgets_27 ?_
  refine lv_iload_n hx hb dX6_forgets_30 rfl (lv_at hl 0 rfl) ?_
  have hPc := hP.sub (ws' := []) [] rfl
  have hDc := hD.sub (ws' := []) [] (by decide) rfl
  have hKc := hK.sub (tys' := []) [] rfl
  have hFc := va_free (wc := []) hD hS hA [] rfl
  refine va_calli (va_runS (As := [.int ((-1))]) (rest := [.ref pr]) ⟨hx, hb, hml, hown, hts⟩ (c_X6_rowd l hst em kw kb D  _) (va_cwS 1 hts gX6_forgets_X6_row rfl rfl rfl (by decide +kernel) ⟨(Nat.le_of_ble_eq_true rfl), (Nat.le_of_ble_eq_true rfl)⟩) (tw_preS hF hS hFc hPc hKc hDc) rfl rfl hl.1 rfl (lv_room (Nat.le_of_ble_eq_true rfl)) dX6_forgets_31 ⟨(Nat.le_of_ble_eq_true rfl), (Nat.le_of_ble_eq_true rfl)⟩) hS (fun q _ h => hFc q h) hFc (fun r u t H locs ht hvm hw hB hz1 hk1 hS => ?_)
  obtain ⟨rfl, rfl⟩ := hw
  obtain ⟨hP, hD, hK⟩ := tw_join (wr := [(pr, .inl (cP, 2, .inr (.inr (.inr (.inr ((tw_two r0 r1))))))), (r0, .inl (cR, 24, .inr (.inr (.inr (.inr ((fun _ => none))))))), (r1, .inl (cR, 24, .inr (.inr (.inr (.inr ((fun _ => none))))))), (mm, .inr (10, [.int 0, .int 9, .int t5, .int 99, .ref c2, .ref ps2, .ref pr, .int 0, .int 0, .int ((-1)), .ref l2, .long 0])), (ps2, .inr (3, [.int 0, .ref em, .int 0]))]) hP hD hK [] [0, 1, 2, 3, 4] rfl rfl (by decide) (by decide) hk1 hFc ht hvm hB
  have hP : va_P D vwCl [(pr, .inl (cP, 2, .inr (.inr (.inr (.inr ((tw_two r0 r1))))))), (r0, .inl (cR, 24, .inr (.inr (.inr (.inr ((fun _ => none))))))), (r1, .inl (cR, 24, .inr (.inr (.inr (.inr ((fun _ => none))))))), (mm, .inr (10, [.int 0, .int 9, .int t5, .int 99, .ref c2, .ref ps2, .ref pr, .int 0, .int 0, .int ((-1)), .ref l2, .long 0])), (ps2, .inr (3, [.int 0, .ref em, .int 0]))] _ := hP
  have hD : va_D A [(pr, .inl (cP, 2, .inr (.inr (.inr (.inr ((tw_two r0 r1))))))), (r0, .inl (cR, 24, .inr (.inr (.inr (.inr ((fun _ => none))))))), (r1, .inl (cR, 24, .inr (.inr (.inr (.inr ((fun _ => none))))))), (mm, .inr (10, [.int 0, .int 9, .int t5, .int 99, .ref c2, .ref ps2, .ref pr, .int 0, .int 0, .int ((-1)), .ref l2, .long 0])), (ps2, .inr (3, [.int 0, .ref em, .int 0]))] := hD
  have hK : va_K D vwCl [(cP, .array (.object "TowerliftryModel$Car")), (cR, .object "TowerliftryModel$Car")] s := hK
  refine W.widen (k := 17) (n := 68) (Nat.le_refl _) (Nat.le_refl _) ?_
  refine W.eq (g2 := F0 m 34 ls [.int 0, .ref pr]) rfl ?_
  refine tw_aldA hx hb hK hP 0 0 rfl rfl (by unfold vp_in; decide) dX6_forgets_34 ?_
  rw [tw_two0]
  refine W.eq (g2 := F0 m 35 ls [.ref r0]) rfl ?_
  refine lv_iload_n hx hb dX6_forgets_35 rfl (lv_at hl 1 rfl) ?_
  refine lv_null hx hb dX6_forgets_36 ?_
  refine va_astqN hx hb hK hP hD hS 1 1 rfl rfl (by unfold vp_in; decide) dX6_forgets_37 (fun H locs hP hD hS => ?_)
  have hP : va_P D vwCl [(pr, .inl (cP, 2, .inr (.inr (.inr (.inr ((tw_two r0 r1))))))), (r0, .inl (cR, 24, .inr (.inr (.inr (.inr (va_up ((fun _ => none)) (8 : Int32).toNatClampNeg none)))))), (r1, .inl (cR, 24, .inr (.inr (.inr (.inr ((fun _ => none))))))), (mm, .inr (10, [.int 0, .int 9, .int t5, .int 99, .ref c2, .ref ps2, .ref pr, .int 0, .int 0, .int ((-1)), .ref l2, .long 0])), (ps2, .inr (3, [.int 0, .ref em, .int 0]))] _ := hP
  have hD : va_D A [(pr, .inl (cP, 2, .inr (.inr (.inr (.inr ((tw_two r0 r1))))))), (r0, .inl (cR, 24, .inr (.inr (.inr (.inr (va_up ((fun _ => none)) (8 : Int32).toNatClampNeg none)))))), (r1, .inl (cR, 24, .inr (.inr (.inr (.inr ((fun _ => none))))))), (mm, .inr (10, [.int 0, .int 9, .int t5, .int 99, .ref c2, .ref ps2, .ref pr, .int 0, .int 0, .int ((-1)), .ref l2, .long 0])), (ps2, .inr (3, [.int 0, .ref em, .int 0]))] := hD
  rw [tw_upn] at hP hD
  have hP : va_P D vwCl [(pr, .inl (cP, 2, .inr (.inr (.inr (.inr ((tw_two r0 r1))))))), (r0, .inl (cR, 24, .inr (.inr (.inr (.inr ((fun _ => none))))))), (r1, .inl (cR, 24, .inr (.inr (.inr (.inr ((fun _ => none))))))), (mm, .inr (10, [.int 0, .int 9, .int t5, .int 99, .ref c2, .ref ps2, .ref pr, .int 0, .int 0, .int ((-1)), .ref l2, .long 0])), (ps2, .inr (3, [.int 0, .ref em, .int 0]))] _ := hP
  have hD : va_D A [(pr, .inl (cP, 2, .inr (.inr (.inr (.inr ((tw_two r0 r1))))))), (r0, .inl (cR, 24, .inr (.inr (.inr (.inr ((fun _ => none))))))), (r1, .inl (cR, 24, .inr (.inr (.inr (.inr ((fun _ => none))))))), (mm, .inr (10, [.int 0, .int 9, .int t5, .int 99, .ref c2, .ref ps2, .ref pr, .int 0, .int 0, .int ((-1)), .ref l2, .long 0])), (ps2, .inr (3, [.int 0, .ref em, .int 0]))] := hD
  refine lv_iinc (v := 1) (lv' := [(2, .int 1), (1, .int 8), (0, .ref mm)]) hx hb dX6_forgets_38 hl (k := 0) rfl (by decide) (by decide) rfl (fun ls hl => ?_)
  refine lv_goto (tgt := 12) hx hb dX6_forgets_41 (by decide) ?_
  refine lv_iload_n hx hb dX6_forgets_12 rfl (lv_at hl 0 rfl) ?_
  refine lv_iconst (v := 2) hx hb dX6_forgets_13 (by decide) ?_
  refine lv_icmp_ge (tgt := 44) hx hb dX6_forgets_14 (by decide) (fun c9 => absurd c9 (by decide)) (fun c9 => ?_)
  refine lv_aload_n hx hb dX6_forgets_17 rfl (lv_at hl 2 rfl) ?_
  refine lv_iload_n hx hb dX6_forgets_18 rfl (lv_at hl 1 rfl) ?_
  refine lv_iload_n hx hb dX6_forgets_19 rfl (lv_at hl 0 rfl) ?_
  have hPc := hP.sub (ws' := [(mm, .inr (10, [.int 0, .int 9, .int t5, .int 99, .ref c2, .ref ps2, .ref pr, .int 0, .int 0, .int ((-1)), .ref l2, .long 0])), (ps2, .inr (3, [.int 0, .ref em, .int 0]))]) [3, 4] rfl
  have hDc := hD.sub (ws' := [(mm, .inr (10, [.int 0, .int 9, .int t5, .int 99, .ref c2, .ref ps2, .ref pr, .int 0, .int 0, .int ((-1)), .ref l2, .long 0])), (ps2, .inr (3, [.int 0, .ref em, .int 0]))]) [3, 4] (by decide) rfl
  have hKc := hK.sub (tys' := []) [] rfl
  have hFc := va_free (wc := [(mm, .inr (10, [.int 0, .int 9, .int t5, .int 99, .ref c2, .ref ps2, .ref pr, .int 0, .int 0, .int ((-1)), .ref l2, .long 0])), (ps2, .inr (3, [.int 0, .ref em, .int 0]))]) hD hS hA [3, 4] rfl
  refine va_calli (va_runV (As := [.int 8, .int 1]) (rest := []) ⟨hx, hb, hml, hown, hts⟩ (c_X6_isCall l hst em kw kb D mm 8 1 t5 c2 ps2 pr l2 _) (cwV 2 hts gX6_forgets_X6_isCall rfl rfl rfl (by decide +kernel) ⟨(Nat.le_of_ble_eq_true rfl), (Nat.le_of_ble_eq_true rfl)⟩) (tw_preV hF hS hFc hPc hKc hDc (va_recv hKc hPc (ci := 10) (q0 := 0) rfl rfl)) rfl rfl hl.1 rfl (lv_room (Nat.le_of_ble_eq_true rfl)) dX6_forgets_20 ⟨(Nat.le_of_ble_eq_true rfl), (Nat.le_of_ble_eq_true rfl)⟩) hS (fun q _ h => hFc q h) hFc (fun r u t H locs ht hvm hw hB hz1 hk1 hS => ?_)
  obtain ⟨rfl, rfl⟩ := hw
  obtain ⟨hP, hD, hK⟩ := tw_join (wr := [(pr, .inl (cP, 2, .inr (.inr (.inr (.inr ((tw_two r0 r1))))))), (r0, .inl (cR, 24, .inr (.inr (.inr (.inr ((fun _ => none))))))), (r1, .inl (cR, 24, .inr (.inr (.inr (.inr ((fun _ => none)))))))]) hP hD hK [3, 4] [0, 1, 2] rfl rfl (by decide) (by decide) hk1 hFc ht hvm hB
  have hP : va_P D vwCl [(pr, .inl (cP, 2, .inr (.inr (.inr (.inr ((tw_two r0 r1))))))), (r0, .inl (cR, 24, .inr (.inr (.inr (.inr ((fun _ => none))))))), (r1, .inl (cR, 24, .inr (.inr (.inr (.inr ((fun _ => none))))))), (mm, .inr (10, [.int 0, .int 9, .int t5, .int 99, .ref c2, .ref ps2, .ref pr, .int 0, .int 0, .int ((-1)), .ref l2, .long 0])), (ps2, .inr (3, [.int 0, .ref em, .int 0]))] _ := hP
  have hD : va_D A [(pr, .inl (cP, 2, .inr (.inr (.inr (.inr ((tw_two r0 r1))))))), (r0, .inl (cR, 24, .inr (.inr (.inr (.inr ((fun _ => none))))))), (r1, .inl (cR, 24, .inr (.inr (.inr (.inr ((fun _ => none))))))), (mm, .inr (10, [.int 0, .int 9, .int t5, .int 99, .ref c2, .ref ps2, .ref pr, .int 0, .int 0, .int ((-1)), .ref l2, .long 0])), (ps2, .inr (3, [.int 0, .ref em, .int 0]))] := hD
  have hK : va_K D vwCl [(cP, .array (.object "TowerliftryModel$Car")), (cR, .object "TowerliftryModel$Car")] s := hK
  refine W.widen (k := 18) (n := 72) (Nat.le_refl _) (Nat.le_refl _) ?_
  refine W.eq (g2 := F0 m 23 ls [.int 0]) rfl ?_
  refine lv_if_ne (tgt := 38) hx hb dX6_forgets_23 (by decide) (fun c9 => absurd c9 (by decide)) (fun c9 => ?_)
  refine lv_aload_n hx hb dX6_forgets_26 rfl (lv_at hl 2 rfl) ?_
  refine va_get (D := D) (ci := 10) (v := .ref pr) (C := RX6) (T := TX6) (N := 12) hx hb hts hiRX6 hown hK hP 3 rfl rfl 6 (by decide) (hts (.fieldLink RX6 29 "TowerliftryModel" "promises" "[[LTowerliftryModel$Car;") (by decide +kernel)) (fun _ h9 => h9) rfl dX6_forgets_27 ?_
  refine lv_iload_n hx hb dX6_forgets_30 rfl (lv_at hl 0 rfl) ?_
  have hPc := hP.sub (ws' := []) [] rfl
  have hDc := hD.sub (ws' := []) [] (by decide) rfl
  have hKc := hK.sub (tys' := []) [] rfl
  have hFc := va_free (wc := []) hD hS hA [] rfl
  refine va_calli (va_runS (As := [.int 1]) (rest := [.ref pr]) ⟨hx, hb, hml, hown, hts⟩ (c_X6_rowu l hst em kw kb D  _) (va_cwS 1 hts gX6_forgets_X6_row rfl rfl rfl (by decide +kernel) ⟨(Nat.le_of_ble_eq_true rfl), (Nat.le_of_ble_eq_true rfl)⟩) (tw_preS hF hS hFc hPc hKc hDc) rfl rfl hl.1 rfl (lv_room (Nat.le_of_ble_eq_true rfl)) dX6_forgets_31 ⟨(Nat.le_of_ble_eq_true rfl), (Nat.le_of_ble_eq_true rfl)⟩) hS (fun q _ h => hFc q h) hFc (fun r u t H locs ht hvm hw hB hz1 hk1 hS => ?_)
  obtain ⟨rfl, rfl⟩ := hw
  obtain ⟨hP, hD, hK⟩ := tw_join (wr := [(pr, .inl (cP, 2, .inr (.inr (.inr (.inr ((tw_two r0 r1))))))), (r0, .inl (cR, 24, .inr (.inr (.inr (.inr ((fun _ => none))))))), (r1, .inl (cR, 24, .inr (.inr (.inr (.inr ((fun _ => none))))))), (mm, .inr (10, [.int 0, .int 9, .int t5, .int 99, .ref c2, .ref ps2, .ref pr, .int 0, .int 0, .int ((-1)), .ref l2, .long 0])), (ps2, .inr (3, [.int 0, .ref em, .int 0]))]) hP hD hK [] [0, 1, 2, 3, 4] rfl rfl (by decide) (by decide) hk1 hFc ht hvm hB
  have hP : va_P D vwCl [(pr, .inl (cP, 2, .inr (.inr (.inr (.inr ((tw_two r0 r1))))))), (r0, .inl (cR, 24, .inr (.inr (.inr (.inr ((fun _ => none))))))), (r1, .inl (cR, 24, .inr (.inr (.inr (.inr ((fun _ => none))))))), (mm, .inr (10, [.int 0, .int 9, .int t5, .int 99, .ref c2, .ref ps2, .ref pr, .int 0, .int 0, .int ((-1)), .ref l2, .long 0])), (ps2, .inr (3, [.int 0, .ref em, .int 0]))] _ := hP
  have hD : va_D A [(pr, .inl (cP, 2, .inr (.inr (.inr (.inr ((tw_two r0 r1))))))), (r0, .inl (cR, 24, .inr (.inr (.inr (.inr ((fun _ => none))))))), (r1, .inl (cR, 24, .inr (.inr (.inr (.inr ((fun _ => none))))))), (mm, .inr (10, [.int 0, .int 9, .int t5, .int 99, .ref c2, .ref ps2, .ref pr, .int 0, .int 0, .int ((-1)), .ref l2, .long 0])), (ps2, .inr (3, [.int 0, .ref em, .int 0]))] := hD
  have hK : va_K D vwCl [(cP, .array (.object "TowerliftryModel$Car")), (cR, .object "TowerliftryModel$Car")] s := hK
  refine W.widen (k := 18) (n := 72) (Nat.le_refl _) (Nat.le_refl _) ?_
  refine W.eq (g2 := F0 m 34 ls [.int 1, .ref pr]) rfl ?_
  refine tw_aldA hx hb hK hP 0 0 rfl rfl (by unfold vp_in; decide) dX6_forgets_34 ?_
  rw [tw_two1]
  refine W.eq (g2 := F0 m 35 ls [.ref r1]) rfl ?_
  refine lv_iload_n hx hb dX6_forgets_35 rfl (lv_at hl 1 rfl) ?_
  refine lv_null hx hb dX6_forgets_36 ?_
  refine va_astqN hx hb hK hP hD hS 2 1 rfl rfl (by unfold vp_in; decide) dX6_forgets_37 (fun H locs hP hD hS => ?_)
  have hP : va_P D vwCl [(pr, .inl (cP, 2, .inr (.inr (.inr (.inr ((tw_two r0 r1))))))), (r0, .inl (cR, 24, .inr (.inr (.inr (.inr ((fun _ => none))))))), (r1, .inl (cR, 24, .inr (.inr (.inr (.inr (va_up ((fun _ => none)) (8 : Int32).toNatClampNeg none)))))), (mm, .inr (10, [.int 0, .int 9, .int t5, .int 99, .ref c2, .ref ps2, .ref pr, .int 0, .int 0, .int ((-1)), .ref l2, .long 0])), (ps2, .inr (3, [.int 0, .ref em, .int 0]))] _ := hP
  have hD : va_D A [(pr, .inl (cP, 2, .inr (.inr (.inr (.inr ((tw_two r0 r1))))))), (r0, .inl (cR, 24, .inr (.inr (.inr (.inr ((fun _ => none))))))), (r1, .inl (cR, 24, .inr (.inr (.inr (.inr (va_up ((fun _ => none)) (8 : Int32).toNatClampNeg none)))))), (mm, .inr (10, [.int 0, .int 9, .int t5, .int 99, .ref c2, .ref ps2, .ref pr, .int 0, .int 0, .int ((-1)), .ref l2, .long 0])), (ps2, .inr (3, [.int 0, .ref em, .int 0]))] := hD
  rw [tw_upn] at hP hD
  have hP : va_P D vwCl [(pr, .inl (cP, 2, .inr (.inr (.inr (.inr ((tw_two r0 r1))))))), (r0, .inl (cR, 24, .inr (.inr (.inr (.inr ((fun _ => none))))))), (r1, .inl (cR, 24, .inr (.inr (.inr (.inr ((fun _ => none))))))), (mm, .inr (10, [.int 0, .int 9, .int t5, .int 99, .ref c2, .ref ps2, .ref pr, .int 0, .int 0, .int ((-1)), .ref l2, .long 0])), (ps2, .inr (3, [.int 0, .ref em, .int 0]))] _ := hP
  have hD : va_D A [(pr, .inl (cP, 2, .inr (.inr (.inr (.inr ((tw_two r0 r1))))))), (r0, .inl (cR, 24, .inr (.inr (.inr (.inr ((fun _ => none))))))), (r1, .inl (cR, 24, .inr (.inr (.inr (.inr ((fun _ => none))))))), (mm, .inr (10, [.int 0, .int 9, .int t5, .int 99, .ref c2, .ref ps2, .ref pr, .int 0, .int 0, .int ((-1)), .ref l2, .long 0])), (ps2, .inr (3, [.int 0, .ref em, .int 0]))] := hD
  refine lv_iinc (v := 3) (lv' := [(2, .int 3), (1, .int 8), (0, .ref mm)]) hx hb dX6_forgets_38 hl (k := 0) rfl (by decide) (by decide) rfl (fun ls hl => ?_)
  refine lv_goto (tgt := 12) hx hb dX6_forgets_41 (by decide) ?_
  refine lv_iload_n hx hb dX6_forgets_12 rfl (lv_at hl 0 rfl) ?_
  refine lv_iconst (v := 2) hx hb dX6_forgets_13 (by decide) ?_
  refine lv_icmp_ge (tgt := 44) hx hb dX6_forgets_14 (by decide) (fun c9 => ?_) (fun c9 => absurd c9 (by decide))
  refine lv_iinc (v := 9) (lv' := [(1, .int 9), (2, .int 3), (0, .ref mm)]) hx hb dX6_forgets_44 hl (k := 1) rfl (by decide) (by decide) rfl (fun ls hl => ?_)
  refine lv_goto (tgt := 2) hx hb dX6_forgets_47 (by decide) ?_
  refine lv_iload_n hx hb dX6_forgets_2 rfl (lv_at hl 0 rfl) ?_
  refine lv_aload_n hx hb dX6_forgets_3 rfl (lv_at hl 2 rfl) ?_
  refine va_get (D := D) (ci := 10) (v := .int 9) (C := RX6) (T := TX6) (N := 12) hx hb hts hiRX6 hown hK hP 3 rfl rfl 1 (by decide) (hts (.fieldLink RX6 7 "TowerliftryModel" "top" "I") (by decide +kernel)) (fun _ h9 => h9) rfl dX6_forgets_4 ?_
  refine lv_icmp_gt (tgt := 50) hx hb dX6_forgets_7 (by decide) (fun c9 => absurd c9 (by decide)) (fun c9 => ?_)
  refine lv_iconst (v := (-1)) hx hb dX6_forgets_10 (by decide) ?_
  refine lv_istore_n (lv' := [(2, .int ((-1))), (1, .int 9), (0, .ref mm)]) hx hb dX6_forgets_11 rfl hl (by decide) rfl (fun ls hl => ?_)
  refine lv_iload_n hx hb dX6_forgets_12 rfl (lv_at hl 0 rfl) ?_
  refine lv_iconst (v := 2) hx hb dX6_forgets_13 (by decide) ?_
  refine lv_icmp_ge (tgt := 44) hx hb dX6_forgets_14 (by decide) (fun c9 => absurd c9 (by decide)) (fun c9 => ?_)
  refine lv_aload_n hx hb dX6_forgets_17 rfl (lv_at hl 2 rfl) ?_
  refine lv_iload_n hx hb dX6_forgets_18 rfl (lv_at hl 1 rfl) ?_
  refine lv_iload_n hx hb dX6_forgets_19 rfl (lv_at hl 0 rfl) ?_
  have hPc := hP.sub (ws' := [(mm, .inr (10, [.int 0, .int 9, .int t5, .int 99, .ref c2, .ref ps2, .ref pr, .int 0, .int 0, .int ((-1)), .ref l2, .long 0])), (ps2, .inr (3, [.int 0, .ref em, .int 0]))]) [3, 4] rfl
  have hDc := hD.sub (ws' := [(mm, .inr (10, [.int 0, .int 9, .int t5, .int 99, .ref c2, .ref ps2, .ref pr, .int 0, .int 0, .int ((-1)), .ref l2, .long 0])), (ps2, .inr (3, [.int 0, .ref em, .int 0]))]) [3, 4] (by decide) rfl
  have hKc := hK.sub (tys' := []) [] rfl
  have hFc := va_free (wc := [(mm, .inr (10, [.int 0, .int 9, .int t5, .int 99, .ref c2, .ref ps2, .ref pr, .int 0, .int 0, .int ((-1)), .ref l2, .long 0])), (ps2, .inr (3, [.int 0, .ref em, .int 0]))]) hD hS hA [3, 4] rfl
  refine va_calli (va_runV (As := [.int 9, .int ((-1))]) (rest := []) ⟨hx, hb, hml, hown, hts⟩ (c_X6_isCall l hst em kw kb D mm 9 ((-1)) t5 c2 ps2 pr l2 _) (cwV 2 hts gX6_forgets_X6_isCall rfl rfl rfl (by decide +kernel) ⟨(Nat.le_of_ble_eq_true rfl), (Nat.le_of_ble_eq_true rfl)⟩) (tw_preV hF hS hFc hPc hKc hDc (va_recv hKc hPc (ci := 10) (q0 := 0) rfl rfl)) rfl rfl hl.1 rfl (lv_room (Nat.le_of_ble_eq_true rfl)) dX6_forgets_20 ⟨(Nat.le_of_ble_eq_true rfl), (Nat.le_of_ble_eq_true rfl)⟩) hS (fun q _ h => hFc q h) hFc (fun r u t H locs ht hvm hw hB hz1 hk1 hS => ?_)
  obtain ⟨rfl, rfl⟩ := hw
  obtain ⟨hP, hD, hK⟩ := tw_join (wr := [(pr, .inl (cP, 2, .inr (.inr (.inr (.inr ((tw_two r0 r1))))))), (r0, .inl (cR, 24, .inr (.inr (.inr (.inr ((fun _ => none))))))), (r1, .inl (cR, 24, .inr (.inr (.inr (.inr ((fun _ => none)))))))]) hP hD hK [3, 4] [0, 1, 2] rfl rfl (by decide) (by decide) hk1 hFc ht hvm hB
  have hP : va_P D vwCl [(pr, .inl (cP, 2, .inr (.inr (.inr (.inr ((tw_two r0 r1))))))), (r0, .inl (cR, 24, .inr (.inr (.inr (.inr ((fun _ => none))))))), (r1, .inl (cR, 24, .inr (.inr (.inr (.inr ((fun _ => none))))))), (mm, .inr (10, [.int 0, .int 9, .int t5, .int 99, .ref c2, .ref ps2, .ref pr, .int 0, .int 0, .int ((-1)), .ref l2, .long 0])), (ps2, .inr (3, [.int 0, .ref em, .int 0]))] _ := hP
  have hD : va_D A [(pr, .inl (cP, 2, .inr (.inr (.inr (.inr ((tw_two r0 r1))))))), (r0, .inl (cR, 24, .inr (.inr (.inr (.inr ((fun _ => none))))))), (r1, .inl (cR, 24, .inr (.inr (.inr (.inr ((fun _ => none))))))), (mm, .inr (10, [.int 0, .int 9, .int t5, .int 99, .ref c2, .ref ps2, .ref pr, .int 0, .int 0, .int ((-1)), .ref l2, .long 0])), (ps2, .inr (3, [.int 0, .ref em, .int 0]))] := hD
  have hK : va_K D vwCl [(cP, .array (.object "TowerliftryModel$Car")), (cR, .object "TowerliftryModel$Car")] s := hK
  refine W.widen (k := 19) (n := 76) (Nat.le_refl _) (Nat.le_refl _) ?_
  refine W.eq (g2 := F0 m 23 ls [.int 0]) rfl ?_
  refine lv_if_ne (tgt := 38) hx hb dX6_forgets_23 (by decide) (fun c9 => absurd c9 (by decide)) (fun c9 => ?_)
  refine lv_aload_n hx hb dX6_forgets_26 rfl (lv_at hl 2 rfl) ?_
  refine va_get (D := D) (ci := 10) (v := .ref pr) (C := RX6) (T := TX6) (N := 12) hx hb hts hiRX6 hown hK hP 3 rfl rfl 6 (by decide) (hts (.fieldLink RX6 29 "TowerliftryModel" "promises" "[[LTowerliftryModel$Car;") (by decide +kernel)) (fun _ h9 => h9) rfl dX6_forgets_27 ?_
  refine lv_iload_n hx hb dX6_forgets_30 rfl (lv_at hl 0 rfl) ?_
  have hPc := hP.sub (ws' := []) [] rfl
  have hDc := hD.sub (ws' := []) [] (by decide) rfl
  have hKc := hK.sub (tys' := []) [] rfl
  have hFc := va_free (wc := []) hD hS hA [] rfl
  refine va_calli (va_runS (As := [.int ((-1))]) (rest := [.ref pr]) ⟨hx, hb, hml, hown, hts⟩ (c_X6_rowd l hst em kw kb D  _) (va_cwS 1 hts gX6_forgets_X6_row rfl rfl rfl (by decide +kernel) ⟨(Nat.le_of_ble_eq_true rfl), (Nat.le_of_ble_eq_true rfl)⟩) (tw_preS hF hS hFc hPc hKc hDc) rfl rfl hl.1 rfl (lv_room (Nat.le_of_ble_eq_true rfl)) dX6_forgets_31 ⟨(Nat.le_of_ble_eq_true rfl), (Nat.le_of_ble_eq_true rfl)⟩) hS (fun q _ h => hFc q h) hFc (fun r u t H locs ht hvm hw hB hz1 hk1 hS => ?_)
  obtain ⟨rfl, rfl⟩ := hw
  obtain ⟨hP, hD, hK⟩ := tw_join (wr := [(pr, .inl (cP, 2, .inr (.inr (.inr (.inr ((tw_two r0 r1))))))), (r0, .inl (cR, 24, .inr (.inr (.inr (.inr ((fun _ => none))))))), (r1, .inl (cR, 24, .inr (.inr (.inr (.inr ((fun _ => none))))))), (mm, .inr (10, [.int 0, .int 9, .int t5, .int 99, .ref c2, .ref ps2, .ref pr, .int 0, .int 0, .int ((-1)), .ref l2, .long 0])), (ps2, .inr (3, [.int 0, .ref em, .int 0]))]) hP hD hK [] [0, 1, 2, 3, 4] rfl rfl (by decide) (by decide) hk1 hFc ht hvm hB
  have hP : va_P D vwCl [(pr, .inl (cP, 2, .inr (.inr (.inr (.inr ((tw_two r0 r1))))))), (r0, .inl (cR, 24, .inr (.inr (.inr (.inr ((fun _ => none))))))), (r1, .inl (cR, 24, .inr (.inr (.inr (.inr ((fun _ => none))))))), (mm, .inr (10, [.int 0, .int 9, .int t5, .int 99, .ref c2, .ref ps2, .ref pr, .int 0, .int 0, .int ((-1)), .ref l2, .long 0])), (ps2, .inr (3, [.int 0, .ref em, .int 0]))] _ := hP
  have hD : va_D A [(pr, .inl (cP, 2, .inr (.inr (.inr (.inr ((tw_two r0 r1))))))), (r0, .inl (cR, 24, .inr (.inr (.inr (.inr ((fun _ => none))))))), (r1, .inl (cR, 24, .inr (.inr (.inr (.inr ((fun _ => none))))))), (mm, .inr (10, [.int 0, .int 9, .int t5, .int 99, .ref c2, .ref ps2, .ref pr, .int 0, .int 0, .int ((-1)), .ref l2, .long 0])), (ps2, .inr (3, [.int 0, .ref em, .int 0]))] := hD
  have hK : va_K D vwCl [(cP, .array (.object "TowerliftryModel$Car")), (cR, .object "TowerliftryModel$Car")] s := hK
  refine W.widen (k := 19) (n := 76) (Nat.le_refl _) (Nat.le_refl _) ?_
  refine W.eq (g2 := F0 m 34 ls [.int 0, .ref pr]) rfl ?_
  refine tw_aldA hx hb hK hP 0 0 rfl rfl (by unfold vp_in; decide) dX6_forgets_34 ?_
  rw [tw_two0]
  refine W.eq (g2 := F0 m 35 ls [.ref r0]) rfl ?_
  refine lv_iload_n hx hb dX6_forgets_35 rfl (lv_at hl 1 rfl) ?_
  refine lv_null hx hb dX6_forgets_36 ?_
  refine va_astqN hx hb hK hP hD hS 1 1 rfl rfl (by unfold vp_in; decide) dX6_forgets_37 (fun H locs hP hD hS => ?_)
  have hP : va_P D vwCl [(pr, .inl (cP, 2, .inr (.inr (.inr (.inr ((tw_two r0 r1))))))), (r0, .inl (cR, 24, .inr (.inr (.inr (.inr (va_up ((fun _ => none)) (9 : Int32).toNatClampNeg none)))))), (r1, .inl (cR, 24, .inr (.inr (.inr (.inr ((fun _ => none))))))), (mm, .inr (10, [.int 0, .int 9, .int t5, .int 99, .ref c2, .ref ps2, .ref pr, .int 0, .int 0, .int ((-1)), .ref l2, .long 0])), (ps2, .inr (3, [.int 0, .ref em, .int 0]))] _ := hP
  have hD : va_D A [(pr, .inl (cP, 2, .inr (.inr (.inr (.inr ((tw_two r0 r1))))))), (r0, .inl (cR, 24, .inr (.inr (.inr (.inr (va_up ((fun _ => none)) (9 : Int32).toNatClampNeg none)))))), (r1, .inl (cR, 24, .inr (.inr (.inr (.inr ((fun _ => none))))))), (mm, .inr (10, [.int 0, .int 9, .int t5, .int 99, .ref c2, .ref ps2, .ref pr, .int 0, .int 0, .int ((-1)), .ref l2, .long 0])), (ps2, .inr (3, [.int 0, .ref em, .int 0]))] := hD
  rw [tw_upn] at hP hD
  have hP : va_P D vwCl [(pr, .inl (cP, 2, .inr (.inr (.inr (.inr ((tw_two r0 r1))))))), (r0, .inl (cR, 24, .inr (.inr (.inr (.inr ((fun _ => none))))))), (r1, .inl (cR, 24, .inr (.inr (.inr (.inr ((fun _ => none))))))), (mm, .inr (10, [.int 0, .int 9, .int t5, .int 99, .ref c2, .ref ps2, .ref pr, .int 0, .int 0, .int ((-1)), .ref l2, .long 0])), (ps2, .inr (3, [.int 0, .ref em, .int 0]))] _ := hP
  have hD : va_D A [(pr, .inl (cP, 2, .inr (.inr (.inr (.inr ((tw_two r0 r1))))))), (r0, .inl (cR, 24, .inr (.inr (.inr (.inr ((fun _ => none))))))), (r1, .inl (cR, 24, .inr (.inr (.inr (.inr ((fun _ => none))))))), (mm, .inr (10, [.int 0, .int 9, .int t5, .int 99, .ref c2, .ref ps2, .ref pr, .int 0, .int 0, .int ((-1)), .ref l2, .long 0])), (ps2, .inr (3, [.int 0, .ref em, .int 0]))] := hD
  refine lv_iinc (v := 1) (lv' := [(2, .int 1), (1, .int 9), (0, .ref mm)]) hx hb dX6_forgets_38 hl (k := 0) rfl (by decide) (by decide) rfl (fun ls hl => ?_)
  refine lv_goto (tgt := 12) hx hb dX6_forgets_41 (by decide) ?_
  refine lv_iload_n hx hb dX6_forgets_12 rfl (lv_at hl 0 rfl) ?_
  refine lv_iconst (v := 2) hx hb dX6_forgets_13 (by decide) ?_
  refine lv_icmp_ge (tgt := 44) hx hb dX6_forgets_14 (by decide) (fun c9 => absurd c9 (by decide)) (fun c9 => ?_)
  refine lv_aload_n hx hb dX6_forgets_17 rfl (lv_at hl 2 rfl) ?_
  refine lv_iload_n hx hb dX6_forgets_18 rfl (lv_at hl 1 rfl) ?_
  refine lv_iload_n hx hb dX6_forgets_19 rfl (lv_at hl 0 rfl) ?_
  have hPc := hP.sub (ws' := [(mm, .inr (10, [.int 0, .int 9, .int t5, .int 99, .ref c2, .ref ps2, .ref pr, .int 0, .int 0, .int ((-1)), .ref l2, .long 0])), (ps2, .inr (3, [.int 0, .ref em, .int 0]))]) [3, 4] rfl
  have hDc := hD.sub (ws' := [(mm, .inr (10, [.int 0, .int 9, .int t5, .int 99, .ref c2, .ref ps2, .ref pr, .int 0, .int 0, .int ((-1)), .ref l2, .long 0])), (ps2, .inr (3, [.int 0, .ref em, .int 0]))]) [3, 4] (by decide) rfl
  have hKc := hK.sub (tys' := []) [] rfl
  have hFc := va_free (wc := [(mm, .inr (10, [.int 0, .int 9, .int t5, .int 99, .ref c2, .ref ps2, .ref pr, .int 0, .int 0, .int ((-1)), .ref l2, .long 0])), (ps2, .inr (3, [.int 0, .ref em, .int 0]))]) hD hS hA [3, 4] rfl
  refine va_calli (va_runV (As := [.int 9, .int 1]) (rest := []) ⟨hx, hb, hml, hown, hts⟩ (c_X6_isCall l hst em kw kb D mm 9 1 t5 c2 ps2 pr l2 _) (cwV 2 hts gX6_forgets_X6_isCall rfl rfl rfl (by decide +kernel) ⟨(Nat.le_of_ble_eq_true rfl), (Nat.le_of_ble_eq_true rfl)⟩) (tw_preV hF hS hFc hPc hKc hDc (va_recv hKc hPc (ci := 10) (q0 := 0) rfl rfl)) rfl rfl hl.1 rfl (lv_room (Nat.le_of_ble_eq_true rfl)) dX6_forgets_20 ⟨(Nat.le_of_ble_eq_true rfl), (Nat.le_of_ble_eq_true rfl)⟩) hS (fun q _ h => hFc q h) hFc (fun r u t H locs ht hvm hw hB hz1 hk1 hS => ?_)
  obtain ⟨rfl, rfl⟩ := hw
  obtain ⟨hP, hD, hK⟩ := tw_join (wr := [(pr, .inl (cP, 2, .inr (.inr (.inr (.inr ((tw_two r0 r1))))))), (r0, .inl (cR, 24, .inr (.inr (.inr (.inr ((fun _ => none))))))), (r1, .inl (cR, 24, .inr (.inr (.inr (.inr ((fun _ => none)))))))]) hP hD hK [3, 4] [0, 1, 2] rfl rfl (by decide) (by decide) hk1 hFc ht hvm hB
  have hP : va_P D vwCl [(pr, .inl (cP, 2, .inr (.inr (.inr (.inr ((tw_two r0 r1))))))), (r0, .inl (cR, 24, .inr (.inr (.inr (.inr ((fun _ => none))))))), (r1, .inl (cR, 24, .inr (.inr (.inr (.inr ((fun _ => none))))))), (mm, .inr (10, [.int 0, .int 9, .int t5, .int 99, .ref c2, .ref ps2, .ref pr, .int 0, .int 0, .int ((-1)), .ref l2, .long 0])), (ps2, .inr (3, [.int 0, .ref em, .int 0]))] _ := hP
  have hD : va_D A [(pr, .inl (cP, 2, .inr (.inr (.inr (.inr ((tw_two r0 r1))))))), (r0, .inl (cR, 24, .inr (.inr (.inr (.inr ((fun _ => none))))))), (r1, .inl (cR, 24, .inr (.inr (.inr (.inr ((fun _ => none))))))), (mm, .inr (10, [.int 0, .int 9, .int t5, .int 99, .ref c2, .ref ps2, .ref pr, .int 0, .int 0, .int ((-1)), .ref l2, .long 0])), (ps2, .inr (3, [.int 0, .ref em, .int 0]))] := hD
  have hK : va_K D vwCl [(cP, .array (.object "TowerliftryModel$Car")), (cR, .object "TowerliftryModel$Car")] s := hK
  refine W.widen (k := 20) (n := 80) (Nat.le_refl _) (Nat.le_refl _) ?_
  refine W.eq (g2 := F0 m 23 ls [.int 0]) rfl ?_
  refine lv_if_ne (tgt := 38) hx hb dX6_forgets_23 (by decide) (fun c9 => absurd c9 (by decide)) (fun c9 => ?_)
  refine lv_aload_n hx hb dX6_forgets_26 rfl (lv_at hl 2 rfl) ?_
  refine va_get (D := D) (ci := 10) (v := .ref pr) (C := RX6) (T := TX6) (N := 12) hx hb hts hiRX6 hown hK hP 3 rfl rfl 6 (by decide) (hts (.fieldLink RX6 29 "TowerliftryModel" "promises" "[[LTowerliftryModel$Car;") (by decide +kernel)) (fun _ h9 => h9) rfl dX6_forgets_27 ?_
  refine lv_iload_n hx hb dX6_forgets_30 rfl (lv_at hl 0 rfl) ?_
  have hPc := hP.sub (ws' := []) [] rfl
  have hDc := hD.sub (ws' := []) [] (by decide) rfl
  have hKc := hK.sub (tys' := []) [] rfl
  have hFc := va_free (wc := []) hD hS hA [] rfl
  refine va_calli (va_runS (As := [.int 1]) (rest := [.ref pr]) ⟨hx, hb, hml, hown, hts⟩ (c_X6_rowu l hst em kw kb D  _) (va_cwS 1 hts gX6_forgets_X6_row rfl rfl rfl (by decide +kernel) ⟨(Nat.le_of_ble_eq_true rfl), (Nat.le_of_ble_eq_true rfl)⟩) (tw_preS hF hS hFc hPc hKc hDc) rfl rfl hl.1 rfl (lv_room (Nat.le_of_ble_eq_true rfl)) dX6_forgets_31 ⟨(Nat.le_of_ble_eq_true rfl), (Nat.le_of_ble_eq_true rfl)⟩) hS (fun q _ h => hFc q h) hFc (fun r u t H locs ht hvm hw hB hz1 hk1 hS => ?_)
  obtain ⟨rfl, rfl⟩ := hw
  obtain ⟨hP, hD, hK⟩ := tw_join (wr := [(pr, .inl (cP, 2, .inr (.inr (.inr (.inr ((tw_two r0 r1))))))), (r0, .inl (cR, 24, .inr (.inr (.inr (.inr ((fun _ => none))))))), (r1, .inl (cR, 24, .inr (.inr (.inr (.inr ((fun _ => none))))))), (mm, .inr (10, [.int 0, .int 9, .int t5, .int 99, .ref c2, .ref ps2, .ref pr, .int 0, .int 0, .int ((-1)), .ref l2, .long 0])), (ps2, .inr (3, [.int 0, .ref em, .int 0]))]) hP hD hK [] [0, 1, 2, 3, 4] rfl rfl (by decide) (by decide) hk1 hFc ht hvm hB
  have hP : va_P D vwCl [(pr, .inl (cP, 2, .inr (.inr (.inr (.inr ((tw_two r0 r1))))))), (r0, .inl (cR, 24, .inr (.inr (.inr (.inr ((fun _ => none))))))), (r1, .inl (cR, 24, .inr (.inr (.inr (.inr ((fun _ => none))))))), (mm, .inr (10, [.int 0, .int 9, .int t5, .int 99, .ref c2, .ref ps2, .ref pr, .int 0, .int 0, .int ((-1)), .ref l2, .long 0])), (ps2, .inr (3, [.int 0, .ref em, .int 0]))] _ := hP
  have hD : va_D A [(pr, .inl (cP, 2, .inr (.inr (.inr (.inr ((tw_two r0 r1))))))), (r0, .inl (cR, 24, .inr (.inr (.inr (.inr ((fun _ => none))))))), (r1, .inl (cR, 24, .inr (.inr (.inr (.inr ((fun _ => none))))))), (mm, .inr (10, [.int 0, .int 9, .int t5, .int 99, .ref c2, .ref ps2, .ref pr, .int 0, .int 0, .int ((-1)), .ref l2, .long 0])), (ps2, .inr (3, [.int 0, .ref em, .int 0]))] := hD
  have hK : va_K D vwCl [(cP, .array (.object "TowerliftryModel$Car")), (cR, .object "TowerliftryModel$Car")] s := hK
  refine W.widen (k := 20) (n := 80) (Nat.le_refl _) (Nat.le_refl _) ?_
  refine W.eq (g2 := F0 m 34 ls [.int 1, .ref pr]) rfl ?_
  refine tw_aldA hx hb hK hP 0 0 rfl rfl (by unfold vp_in; decide) dX6_forgets_34 ?_
  rw [tw_two1]
  refine W.eq (g2 := F0 m 35 ls [.ref r1]) rfl ?_
  refine lv_iload_n hx hb dX6_forgets_35 rfl (lv_at hl 1 rfl) ?_
  refine lv_null hx hb dX6_forgets_36 ?_
  refine va_astqN hx hb hK hP hD hS 2 1 rfl rfl (by unfold vp_in; decide) dX6_forgets_37 (fun H locs hP hD hS => ?_)
  have hP : va_P D vwCl [(pr, .inl (cP, 2, .inr (.inr (.inr (.inr ((tw_two r0 r1))))))), (r0, .inl (cR, 24, .inr (.inr (.inr (.inr ((fun _ => none))))))), (r1, .inl (cR, 24, .inr (.inr (.inr (.inr (va_up ((fun _ => none)) (9 : Int32).toNatClampNeg none)))))), (mm, .inr (10, [.int 0, .int 9, .int t5, .int 99, .ref c2, .ref ps2, .ref pr, .int 0, .int 0, .int ((-1)), .ref l2, .long 0])), (ps2, .inr (3, [.int 0, .ref em, .int 0]))] _ := hP
  have hD : va_D A [(pr, .inl (cP, 2, .inr (.inr (.inr (.inr ((tw_two r0 r1))))))), (r0, .inl (cR, 24, .inr (.inr (.inr (.inr ((fun _ => none))))))), (r1, .inl (cR, 24, .inr (.inr (.inr (.inr (va_up ((fun _ => none)) (9 : Int32).toNatClampNeg none)))))), (mm, .inr (10, [.int 0, .int 9, .int t5, .int 99, .ref c2, .ref ps2, .ref pr, .int 0, .int 0, .int ((-1)), .ref l2, .long 0])), (ps2, .inr (3, [.int 0, .ref em, .int 0]))] := hD
  rw [tw_upn] at hP hD
  have hP : va_P D vwCl [(pr, .inl (cP, 2, .inr (.inr (.inr (.inr ((tw_two r0 r1))))))), (r0, .inl (cR, 24, .inr (.inr (.inr (.inr ((fun _ => none))))))), (r1, .inl (cR, 24, .inr (.inr (.inr (.inr ((fun _ => none))))))), (mm, .inr (10, [.int 0, .int 9, .int t5, .int 99, .ref c2, .ref ps2, .ref pr, .int 0, .int 0, .int ((-1)), .ref l2, .long 0])), (ps2, .inr (3, [.int 0, .ref em, .int 0]))] _ := hP
  have hD : va_D A [(pr, .inl (cP, 2, .inr (.inr (.inr (.inr ((tw_two r0 r1))))))), (r0, .inl (cR, 24, .inr (.inr (.inr (.inr ((fun _ => none))))))), (r1, .inl (cR, 24, .inr (.inr (.inr (.inr ((fun _ => none))))))), (mm, .inr (10, [.int 0, .int 9, .int t5, .int 99, .ref c2, .ref ps2, .ref pr, .int 0, .int 0, .int ((-1)), .ref l2, .long 0])), (ps2, .inr (3, [.int 0, .ref em, .int 0]))] := hD
  refine lv_iinc (v := 3) (lv' := [(2, .int 3), (1, .int 9), (0, .ref mm)]) hx hb dX6_forgets_38 hl (k := 0) rfl (by decide) (by decide) rfl (fun ls hl => ?_)
  refine lv_goto (tgt := 12) hx hb dX6_forgets_41 (by decide) ?_
  refine lv_iload_n hx hb dX6_forgets_12 rfl (lv_at hl 0 rfl) ?_
  refine lv_iconst (v := 2) hx hb dX6_forgets_13 (by decide) ?_
  refine lv_icmp_ge (tgt := 44) hx hb dX6_forgets_14 (by decide) (fun c9 => ?_) (fun c9 => absurd c9 (by decide))
  refine lv_iinc (v := 10) (lv' := [(1, .int 10), (2, .int 3), (0, .ref mm)]) hx hb dX6_forgets_44 hl (k := 1) rfl (by decide) (by decide) rfl (fun ls hl => ?_)
  refine lv_goto (tgt := 2) hx hb dX6_forgets_47 (by decide) ?_
  refine lv_iload_n hx hb dX6_forgets_2 rfl (lv_at hl 0 rfl) ?_
  refine lv_aload_n hx hb dX6_forgets_3 rfl (lv_at hl 2 rfl) ?_
  refine va_get (D := D) (ci := 10) (v := .int 9) (C := RX6) (T := TX6) (N := 12) hx hb hts hiRX6 hown hK hP 3 rfl rfl 1 (by decide) (hts (.fieldLink RX6 7 "TowerliftryModel" "top" "I") (by decide +kernel)) (fun _ h9 => h9) rfl dX6_forgets_4 ?_
  refine lv_icmp_gt (tgt := 50) hx hb dX6_forgets_7 (by decide) (fun c9 => ?_) (fun c9 => absurd c9 (by decide))
  refine W.widen (k := 20) (n := 80) (Nat.le_of_ble_eq_true rfl) (Nat.le_of_ble_eq_true rfl) ?_
  have hP9 := hP.sub (ws' := [(mm, .inr (10, [.int 0, .int 9, .int t5, .int 99, .ref c2, .ref ps2, .ref pr, .int 0, .int 0, .int ((-1)), .ref l2, .long 0])), (ps2, .inr (3, [.int 0, .ref em, .int 0])), (pr, .inl (cP, 2, .inr (.inr (.inr (.inr ((tw_two r0 r1))))))), (r0, .inl (cR, 24, .inr (.inr (.inr (.inr ((fun _ => none))))))), (r1, .inl (cR, 24, .inr (.inr (.inr (.inr ((fun _ => none)))))))]) [3, 4, 0, 1, 2] rfl
  have hD9 := hD.sub (ws' := [(mm, .inr (10, [.int 0, .int 9, .int t5, .int 99, .ref c2, .ref ps2, .ref pr, .int 0, .int 0, .int ((-1)), .ref l2, .long 0])), (ps2, .inr (3, [.int 0, .ref em, .int 0])), (pr, .inl (cP, 2, .inr (.inr (.inr (.inr ((tw_two r0 r1))))))), (r0, .inl (cR, 24, .inr (.inr (.inr (.inr ((fun _ => none))))))), (r1, .inl (cR, 24, .inr (.inr (.inr (.inr ((fun _ => none)))))))]) [3, 4, 0, 1, 2] (by decide) rfl
  have hK9 := hK.sub (tys' := []) [] rfl
  exact W.vret hx hb hr (fun t ht hW => ⟨⟨([(mm, .inr (10, [.int 0, .int 9, .int t5, .int 99, .ref c2, .ref ps2, .ref pr, .int 0, .int 0, .int ((-1)), .ref l2, .long 0])), (ps2, .inr (3, [.int 0, .ref em, .int 0])), (pr, .inl (cP, 2, .inr (.inr (.inr (.inr ((tw_two r0 r1))))))), (r0, .inl (cR, 24, .inr (.inr (.inr (.inr ((fun _ => none))))))), (r1, .inl (cR, 24, .inr (.inr (.inr (.inr ((fun _ => none)))))))], []), rfl, rfl, by rw [ht]; exact hP9, va_K.moved hW.alike hK9, hD9⟩, hS.F ht⟩) hS.2.2 dX6_forgets_50
