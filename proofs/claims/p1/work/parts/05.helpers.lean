theorem dJx4a65c_isEmpty_aae02_0 : decode cJx4a65c_isEmpty_aae02 0 = .ok (.aload_n 0, 1) := by decide +kernel
theorem dJx4a65c_isEmpty_aae02_1 : decode cJx4a65c_isEmpty_aae02 1 = .ok (.getfield 48, 3) := by decide +kernel
theorem dJx4a65c_isEmpty_aae02_4 : decode cJx4a65c_isEmpty_aae02 4 = .ok (.ifCond .ne 7, 3) := by decide +kernel
theorem dJx4a65c_isEmpty_aae02_7 : decode cJx4a65c_isEmpty_aae02 7 = .ok (.iconst 1, 1) := by decide +kernel
theorem dJx4a65c_isEmpty_aae02_8 : decode cJx4a65c_isEmpty_aae02 8 = .ok (.goto 4, 3) := by decide +kernel
theorem dJx4a65c_isEmpty_aae02_12 : decode cJx4a65c_isEmpty_aae02 12 = .ok (.ireturn, 1) := by decide +kernel
theorem dJx4a65c_size_8abf5_0 : decode cJx4a65c_size_8abf5 0 = .ok (.aload_n 0, 1) := by decide +kernel
theorem dJx4a65c_size_8abf5_1 : decode cJx4a65c_size_8abf5 1 = .ok (.getfield 48, 3) := by decide +kernel
theorem dJx4a65c_size_8abf5_4 : decode cJx4a65c_size_8abf5 4 = .ok (.ireturn, 1) := by decide +kernel
theorem dX3_isFloor_0 : decode cX3_isFloor 0 = .ok (.iload_n 1, 1) := by decide +kernel
theorem dX3_isFloor_1 : decode cX3_isFloor 1 = .ok (.ifCond .lt 15, 3) := by decide +kernel
theorem dX3_isFloor_16 : decode cX3_isFloor 16 = .ok (.iconst 0, 1) := by decide +kernel
theorem dX3_isFloor_17 : decode cX3_isFloor 17 = .ok (.ireturn, 1) := by decide +kernel
theorem dX3_isFloor_4 : decode cX3_isFloor 4 = .ok (.iload_n 1, 1) := by decide +kernel
theorem dX3_isFloor_5 : decode cX3_isFloor 5 = .ok (.aload_n 0, 1) := by decide +kernel
theorem dX3_isFloor_6 : decode cX3_isFloor 6 = .ok (.getfield 26, 3) := by decide +kernel
theorem dX3_isFloor_9 : decode cX3_isFloor 9 = .ok (.if_icmp .gt 7, 3) := by decide +kernel
theorem dX3_isFloor_12 : decode cX3_isFloor 12 = .ok (.iconst 1, 1) := by decide +kernel
theorem dX3_isFloor_13 : decode cX3_isFloor 13 = .ok (.goto 4, 3) := by decide +kernel
theorem dX3_checkFloor_0 : decode cX3_checkFloor 0 = .ok (.aload_n 0, 1) := by decide +kernel
theorem dX3_checkFloor_1 : decode cX3_checkFloor 1 = .ok (.iload_n 1, 1) := by decide +kernel
set_option maxRecDepth 20000 in
theorem ggX3_checkFloor_X3_isFloor : GoodIn wsX3_checkFloor wsX3_isFloor := goodIn_r _ [7, 8, 9, 10, 11, 12, 13, 14, 15, 16, 17, 18, 19, 20] (by decide +kernel) (by decide +kernel)
set_option maxRecDepth 20000 in
theorem gX3_checkFloor_X3_isFloor : GoodIn wsX3_checkFloor (wsV RX3 53 RX3 yX3_isFloor wsX3_isFloor) := goodIn_app (goodIn_of _ (by decide +kernel)) ggX3_checkFloor_X3_isFloor
theorem dX3_checkFloor_2 : decode cX3_checkFloor 2 = .ok (.invokevirtual 53, 3) := by decide +kernel
theorem dX3_checkFloor_5 : decode cX3_checkFloor 5 = .ok (.ifCond .ne 14, 3) := by decide +kernel
theorem dX3_checkFloor_8 : decode cX3_checkFloor 8 = .ok (.new 37, 3) := by decide +kernel
theorem dX3_checkFloor_11 : decode cX3_checkFloor 11 = .ok (.dup, 1) := by decide +kernel
theorem dX3_checkFloor_12 : decode cX3_checkFloor 12 = .ok (.ldc_w 265, 3) := by decide +kernel
theorem dX3_checkFloor_15 : decode cX3_checkFloor 15 = .ok (.invokespecial 41, 3) := by decide +kernel
theorem dX3_checkFloor_18 : decode cX3_checkFloor 18 = .ok (.athrow, 1) := by decide +kernel
theorem dX3_checkFloor_19 : decode cX3_checkFloor 19 = .ok (.return_, 1) := by decide +kernel
theorem dX3_carOf_0 : decode cX3_carOf 0 = .ok (.iload_n 1, 1) := by decide +kernel
theorem dX3_carOf_1 : decode cX3_carOf 1 = .ok (.ifCond .lt 14, 3) := by decide +kernel
theorem dX3_carOf_15 : decode cX3_carOf 15 = .ok (.new 267, 3) := by decide +kernel
theorem dX3_carOf_18 : decode cX3_carOf 18 = .ok (.dup, 1) := by decide +kernel
theorem dX3_carOf_19 : decode cX3_carOf 19 = .ok (.ldc_w 272, 3) := by decide +kernel
theorem dX3_carOf_22 : decode cX3_carOf 22 = .ok (.invokespecial 271, 3) := by decide +kernel
theorem dX3_carOf_25 : decode cX3_carOf 25 = .ok (.athrow, 1) := by decide +kernel
theorem dX3_carOf_4 : decode cX3_carOf 4 = .ok (.iload_n 1, 1) := by decide +kernel
theorem dX3_carOf_5 : decode cX3_carOf 5 = .ok (.aload_n 0, 1) := by decide +kernel
theorem dX3_carOf_6 : decode cX3_carOf 6 = .ok (.getfield 10, 3) := by decide +kernel
set_option maxRecDepth 20000 in
theorem ggX3_carOf_Jx4a65c_size_8abf5 : GoodIn wsX3_carOf wsJx4a65c_size_8abf5 := goodIn_r _ [9, 10, 40, 41, 42] (by decide +kernel) (by decide +kernel)
set_option maxRecDepth 20000 in
theorem gX3_carOf_Jx4a65c_size_8abf5 : GoodIn wsX3_carOf (wsV RX3 75 RJx4a65c yJx4a65c_size_8abf5 wsJx4a65c_size_8abf5) := goodIn_app (goodIn_of _ (by decide +kernel)) ggX3_carOf_Jx4a65c_size_8abf5
theorem dX3_carOf_9 : decode cX3_carOf 9 = .ok (.invokevirtual 75, 3) := by decide +kernel
theorem dX3_carOf_12 : decode cX3_carOf 12 = .ok (.if_icmp .lt 14, 3) := by decide +kernel
theorem dX3_personOf_0 : decode cX3_personOf 0 = .ok (.iload_n 1, 1) := by decide +kernel
theorem dX3_personOf_1 : decode cX3_personOf 1 = .ok (.ifCond .lt 14, 3) := by decide +kernel
theorem dX3_personOf_15 : decode cX3_personOf 15 = .ok (.new 267, 3) := by decide +kernel
theorem dX3_personOf_18 : decode cX3_personOf 18 = .ok (.dup, 1) := by decide +kernel
theorem dX3_personOf_19 : decode cX3_personOf 19 = .ok (.ldc_w 274, 3) := by decide +kernel
theorem dX3_personOf_22 : decode cX3_personOf 22 = .ok (.invokespecial 271, 3) := by decide +kernel
theorem dX3_personOf_25 : decode cX3_personOf 25 = .ok (.athrow, 1) := by decide +kernel
theorem dX3_personOf_4 : decode cX3_personOf 4 = .ok (.iload_n 1, 1) := by decide +kernel
theorem dX3_personOf_5 : decode cX3_personOf 5 = .ok (.aload_n 0, 1) := by decide +kernel
theorem dX3_personOf_6 : decode cX3_personOf 6 = .ok (.getfield 16, 3) := by decide +kernel
set_option maxRecDepth 20000 in
theorem ggX3_personOf_Jx4a65c_size_8abf5 : GoodIn wsX3_personOf wsJx4a65c_size_8abf5 := goodIn_r _ [9, 10, 40, 41, 42] (by decide +kernel) (by decide +kernel)
set_option maxRecDepth 20000 in
theorem gX3_personOf_Jx4a65c_size_8abf5 : GoodIn wsX3_personOf (wsV RX3 75 RJx4a65c yJx4a65c_size_8abf5 wsJx4a65c_size_8abf5) := goodIn_app (goodIn_of _ (by decide +kernel)) ggX3_personOf_Jx4a65c_size_8abf5
theorem dX3_personOf_9 : decode cX3_personOf 9 = .ok (.invokevirtual 75, 3) := by decide +kernel
theorem dX3_personOf_12 : decode cX3_personOf 12 = .ok (.if_icmp .lt 14, 3) := by decide +kernel
theorem dX3_checkEntry_0 : decode cX3_checkEntry 0 = .ok (.iload_n 1, 1) := by decide +kernel
theorem dX3_checkEntry_1 : decode cX3_checkEntry 1 = .ok (.ifCond .lt 14, 3) := by decide +kernel
theorem dX3_checkEntry_15 : decode cX3_checkEntry 15 = .ok (.new 267, 3) := by decide +kernel
theorem dX3_checkEntry_18 : decode cX3_checkEntry 18 = .ok (.dup, 1) := by decide +kernel
theorem dX3_checkEntry_19 : decode cX3_checkEntry 19 = .ok (.ldc_w 269, 3) := by decide +kernel
theorem dX3_checkEntry_22 : decode cX3_checkEntry 22 = .ok (.invokespecial 271, 3) := by decide +kernel
theorem dX3_checkEntry_25 : decode cX3_checkEntry 25 = .ok (.athrow, 1) := by decide +kernel
theorem dX3_checkEntry_4 : decode cX3_checkEntry 4 = .ok (.iload_n 1, 1) := by decide +kernel
theorem dX3_checkEntry_5 : decode cX3_checkEntry 5 = .ok (.aload_n 0, 1) := by decide +kernel
theorem dX3_checkEntry_6 : decode cX3_checkEntry 6 = .ok (.getfield 22, 3) := by decide +kernel
theorem dX3_checkEntry_9 : decode cX3_checkEntry 9 = .ok (.getfield 221, 3) := by decide +kernel
theorem dX3_checkEntry_12 : decode cX3_checkEntry 12 = .ok (.if_icmp .lt 14, 3) := by decide +kernel
theorem dX3_setTop_0 : decode cX3_setTop 0 = .ok (.iload_n 1, 1) := by decide +kernel
theorem dX3_setTop_1 : decode cX3_setTop 1 = .ok (.iconst 4, 1) := by decide +kernel
theorem dX3_setTop_2 : decode cX3_setTop 2 = .ok (.if_icmp .lt 9, 3) := by decide +kernel
theorem dX3_setTop_11 : decode cX3_setTop 11 = .ok (.new 37, 3) := by decide +kernel
theorem dX3_setTop_14 : decode cX3_setTop 14 = .ok (.dup, 1) := by decide +kernel
theorem dX3_setTop_15 : decode cX3_setTop 15 = .ok (.ldc 39, 2) := by decide +kernel
theorem dX3_setTop_17 : decode cX3_setTop 17 = .ok (.invokespecial 41, 3) := by decide +kernel
theorem dX3_setTop_20 : decode cX3_setTop 20 = .ok (.athrow, 1) := by decide +kernel
theorem dX3_setTop_5 : decode cX3_setTop 5 = .ok (.iload_n 1, 1) := by decide +kernel
theorem dX3_setTop_6 : decode cX3_setTop 6 = .ok (.bipush 23, 2) := by decide +kernel
theorem dX3_setTop_8 : decode cX3_setTop 8 = .ok (.if_icmp .le 13, 3) := by decide +kernel
theorem dX3_setTop_21 : decode cX3_setTop 21 = .ok (.aload_n 0, 1) := by decide +kernel
theorem dX3_setTop_22 : decode cX3_setTop 22 = .ok (.getfield 10, 3) := by decide +kernel
set_option maxRecDepth 20000 in
theorem ggX3_setTop_Jx4a65c_isEmpty_aae02 : GoodIn wsX3_setTop wsJx4a65c_isEmpty_aae02 := goodIn_r _ [12, 13, 26, 27, 28] (by decide +kernel) (by decide +kernel)
set_option maxRecDepth 20000 in
theorem gX3_setTop_Jx4a65c_isEmpty_aae02 : GoodIn wsX3_setTop (wsV RX3 44 RJx4a65c yJx4a65c_isEmpty_aae02 wsJx4a65c_isEmpty_aae02) := goodIn_app (goodIn_of _ (by decide +kernel)) ggX3_setTop_Jx4a65c_isEmpty_aae02
theorem dX3_setTop_25 : decode cX3_setTop 25 = .ok (.invokevirtual 44, 3) := by decide +kernel
theorem dX3_setTop_28 : decode cX3_setTop 28 = .ok (.ifCond .eq 13, 3) := by decide +kernel
theorem dX3_setTop_31 : decode cX3_setTop 31 = .ok (.aload_n 0, 1) := by decide +kernel
theorem dX3_setTop_32 : decode cX3_setTop 32 = .ok (.getfield 16, 3) := by decide +kernel
theorem dX3_setTop_35 : decode cX3_setTop 35 = .ok (.invokevirtual 44, 3) := by decide +kernel
theorem dX3_setTop_38 : decode cX3_setTop 38 = .ok (.ifCond .ne 13, 3) := by decide +kernel
theorem dX3_setTop_51 : decode cX3_setTop 51 = .ok (.aload_n 0, 1) := by decide +kernel
theorem dX3_setTop_52 : decode cX3_setTop 52 = .ok (.getfield 26, 3) := by decide +kernel
theorem dX3_setTop_55 : decode cX3_setTop 55 = .ok (.istore_n 2, 1) := by decide +kernel
theorem dX3_setTop_56 : decode cX3_setTop 56 = .ok (.aload_n 0, 1) := by decide +kernel
theorem dX3_setTop_57 : decode cX3_setTop 57 = .ok (.iload_n 1, 1) := by decide +kernel
theorem dX3_setTop_58 : decode cX3_setTop 58 = .ok (.putfield 26, 3) := by decide +kernel
theorem dX3_setTop_61 : decode cX3_setTop 61 = .ok (.iload_n 2, 1) := by decide +kernel
theorem dX3_setTop_62 : decode cX3_setTop 62 = .ok (.ireturn, 1) := by decide +kernel
theorem dX3_setDispatcher_0 : decode cX3_setDispatcher 0 = .ok (.iload_n 1, 1) := by decide +kernel
theorem dX3_setDispatcher_1 : decode cX3_setDispatcher 1 = .ok (.bipush 99, 2) := by decide +kernel
theorem dX3_setDispatcher_3 : decode cX3_setDispatcher 3 = .ok (.if_icmp .eq 31, 3) := by decide +kernel
theorem dX3_setDispatcher_34 : decode cX3_setDispatcher 34 = .ok (.aload_n 0, 1) := by decide +kernel
theorem dX3_setDispatcher_35 : decode cX3_setDispatcher 35 = .ok (.getfield 30, 3) := by decide +kernel
theorem dX3_setDispatcher_38 : decode cX3_setDispatcher 38 = .ok (.istore_n 2, 1) := by decide +kernel
theorem dX3_setDispatcher_39 : decode cX3_setDispatcher 39 = .ok (.aload_n 0, 1) := by decide +kernel
theorem dX3_setDispatcher_40 : decode cX3_setDispatcher 40 = .ok (.iload_n 1, 1) := by decide +kernel
theorem dX3_setDispatcher_41 : decode cX3_setDispatcher 41 = .ok (.putfield 30, 3) := by decide +kernel
theorem dX3_setDispatcher_44 : decode cX3_setDispatcher 44 = .ok (.iload_n 2, 1) := by decide +kernel
theorem dX3_setDispatcher_45 : decode cX3_setDispatcher 45 = .ok (.ireturn, 1) := by decide +kernel
theorem dX3_setDispatcher_6 : decode cX3_setDispatcher 6 = .ok (.iload_n 1, 1) := by decide +kernel
theorem dX3_setDispatcher_7 : decode cX3_setDispatcher 7 = .ok (.bipush 122, 2) := by decide +kernel
theorem dX3_setDispatcher_9 : decode cX3_setDispatcher 9 = .ok (.if_icmp .eq 25, 3) := by decide +kernel
theorem dX3_setDispatcher_12 : decode cX3_setDispatcher 12 = .ok (.iload_n 1, 1) := by decide +kernel
theorem dX3_setDispatcher_13 : decode cX3_setDispatcher 13 = .ok (.bipush 101, 2) := by decide +kernel
theorem dX3_setDispatcher_15 : decode cX3_setDispatcher 15 = .ok (.if_icmp .eq 19, 3) := by decide +kernel
theorem dX3_setDispatcher_18 : decode cX3_setDispatcher 18 = .ok (.iload_n 1, 1) := by decide +kernel
theorem dX3_setDispatcher_19 : decode cX3_setDispatcher 19 = .ok (.bipush 97, 2) := by decide +kernel
theorem dX3_setDispatcher_21 : decode cX3_setDispatcher 21 = .ok (.if_icmp .eq 13, 3) := by decide +kernel
theorem dX3_setDispatcher_24 : decode cX3_setDispatcher 24 = .ok (.new 37, 3) := by decide +kernel
theorem dX3_setDispatcher_27 : decode cX3_setDispatcher 27 = .ok (.dup, 1) := by decide +kernel
theorem dX3_setDispatcher_28 : decode cX3_setDispatcher 28 = .ok (.ldc 95, 2) := by decide +kernel
theorem dX3_setDispatcher_30 : decode cX3_setDispatcher 30 = .ok (.invokespecial 41, 3) := by decide +kernel
theorem dX3_setDispatcher_33 : decode cX3_setDispatcher 33 = .ok (.athrow, 1) := by decide +kernel
theorem dX3_state_0 : decode cX3_state 0 = .ok (.aload_n 0, 1) := by decide +kernel
theorem dX3_state_1 : decode cX3_state 1 = .ok (.iload_n 1, 1) := by decide +kernel
set_option maxRecDepth 20000 in
theorem ggX3_state_X3_personOf : GoodIn wsX3_state wsX3_personOf := goodIn_ca (goodIn_r _ [6, 7, 8, 9, 10, 11, 12, 13, 14, 15, 16, 17, 18, 19, 20, 21, 22, 23, 24, 25, 26, 27, 28, 29, 30, 31, 32, 33, 41, 42, 43, 44, 45, 46, 47, 48, 49, 50, 51, 52, 53, 54, 55] (by decide +kernel) (by decide +kernel)) (goodIn_sub (fun _ h => List.mem_cons_of_mem _ (List.mem_append_right _ h)) (by decide +kernel))
set_option maxRecDepth 20000 in
theorem gX3_state_X3_personOf : GoodIn wsX3_state (wsV RX3 132 RX3 yX3_personOf wsX3_personOf) := goodIn_app (goodIn_of _ (by decide +kernel)) ggX3_state_X3_personOf
theorem dX3_state_2 : decode cX3_state 2 = .ok (.invokevirtual 132, 3) := by decide +kernel
set_option maxHeartbeats 4000000 in
set_option maxRecDepth 100000 in
theorem c_Jx4a65c_isEmpty_aae02 (l : Launch) (hst : l.stackTraces = false) (em : Nat) (D : va_G) (li : Nat) (ed : Nat) (sz : Nat) : Met l yJx4a65c_isEmpty_aae02 wsJx4a65c_isEmpty_aae02 ({ frames := 0, cells := 0, slots := 0, locals := 0 }) (va_Pc [.ref li] (tw_Pre em D sz [(li, .inr (3, [.int 0, .ref ed, .int 0]))] [])) (va_Qi (fun (r : Int32) (u : tw_U) => r = 1 ∧ u = ([(li, .inr (3, [.int 0, .ref ed, .int 0]))], [])) (tw_B D (va_A [(li, .inr (3, [.int 0, .ref ed, .int 0]))] sz)) (va_A [(li, .inr (3, [.int 0, .ref ed, .int 0]))] sz)) 0 0 (va_A [(li, .inr (3, [.int 0, .ref ed, .int 0]))] sz) := by
  refine Met.ofW (cc := cJx4a65c_isEmpty_aae02) (maxL := 1) (ret := (some .boolean)) (by decide) rfl ?_
  intro p e s m args below meth c s₁ B hml hv
  obtain ⟨rfl, hsz, hP, hK, hD0, hF⟩ := hv
  have hx := B.exec
  have hb := B.bytes
  have hr := B.returns
  have hts := atoms_spec (ws := wsJx4a65c_isEmpty_aae02) B.pre
  have hown : s.vm.findClass RJx4a65c = some m.cls := findClass_of_methodNamed B.named
  have hlocks := B.notSynchronized
  have hiRJx4a65c : ∀ w ∈ u_ws RJx4a65c TJx4a65c 3, w ∈ wsJx4a65c_isEmpty_aae02 := by decide +kernel
  subst hsz
  have hD := hD0.self (sz := s.heap.size)
  generalize hAe : va_A [(li, .inr (3, [.int 0, .ref ed, .int 0]))] s.heap.size = A at hD hF ⊢
  have hA : ∀ q : Nat, s.heap.size ≤ q → A q := fun q h => by rw [← hAe]; exact Or.inr h
  have hS : va_S A s.heap s.heap [] := va_S.rf
  have hP : va_P D vwCl [(li, .inr (3, [.int 0, .ref ed, .int 0]))] s.heap := hP
  have hl := lv_entry ([.ref li]) (n := 1) (Nat.le_of_ble_eq_true rfl)
  rw [lg_entry_eq]
  generalize (lg_sl ([.ref li]) ++ List.replicate (1 - (lg_sl ([.ref li])).length) Slot.unset).toArray = ls at hl ⊢
  have hl : lv_has ls 1 [(0, .ref li)] := hl
  refine lv_aload_n hx hb dJx4a65c_isEmpty_aae02_0 rfl (lv_at hl 0 rfl) ?_
  refine va_get (D := D) (ci := 3) (v := .int 0) (C := RJx4a65c) (T := TJx4a65c) (N := 3) hx hb hts hiRJx4a65c hown hK hP 0 rfl rfl 2 (by decide) (hts (.fieldLink RJx4a65c 48 "java/util/ArrayList" "size" "I") (by decide +kernel)) (fun _ h9 => h9) rfl dJx4a65c_isEmpty_aae02_1 ?_
  refine lv_if_ne (tgt := 11) hx hb dJx4a65c_isEmpty_aae02_4 (by decide) (fun c9 => absurd c9 (by decide)) (fun c9 => ?_)
  refine lv_iconst (v := 1) hx hb dJx4a65c_isEmpty_aae02_7 (by decide) ?_
  refine lv_goto (tgt := 12) hx hb dJx4a65c_isEmpty_aae02_8 (by decide) ?_
  refine W.widen (k := 0) (n := 0) (Nat.le_of_ble_eq_true rfl) (Nat.le_of_ble_eq_true rfl) ?_
  have hP9 := hP.sub (ws' := [(li, .inr (3, [.int 0, .ref ed, .int 0]))]) [0] rfl
  have hD9 := hD.sub (ws' := [(li, .inr (3, [.int 0, .ref ed, .int 0]))]) [0] (by decide) rfl
  have hK9 := hK.sub (tys' := []) [] rfl
  exact W.zret (v := 1) (ty := .boolean) hx hb hr (by decide) (fun t ht hW => ⟨⟨1, ([(li, .inr (3, [.int 0, .ref ed, .int 0]))], []), rfl, ⟨rfl, rfl⟩, by rw [ht]; exact hP9, va_K.moved hW.alike hK9, hD9⟩, hS.F ht⟩) hS.2.2 dJx4a65c_isEmpty_aae02_12
set_option maxHeartbeats 4000000 in
set_option maxRecDepth 100000 in
theorem c_size0 (l : Launch) (hst : l.stackTraces = false) (em : Nat) (D : va_G) (li : Nat) (ed : Nat) (sz : Nat) : Met l yJx4a65c_size_8abf5 wsJx4a65c_size_8abf5 ({ frames := 0, cells := 0, slots := 0, locals := 0 }) (va_Pc [.ref li] (tw_Pre em D sz [(li, .inr (3, [.int 0, .ref ed, .int 0]))] [])) (va_Qi (fun (r : Int32) (u : tw_U) => r = 0 ∧ u = ([(li, .inr (3, [.int 0, .ref ed, .int 0]))], [])) (tw_B D (va_A [(li, .inr (3, [.int 0, .ref ed, .int 0]))] sz)) (va_A [(li, .inr (3, [.int 0, .ref ed, .int 0]))] sz)) 0 0 (va_A [(li, .inr (3, [.int 0, .ref ed, .int 0]))] sz) := by
  refine Met.ofW (cc := cJx4a65c_size_8abf5) (maxL := 1) (ret := (some .int)) (by decide) rfl ?_
  intro p e s m args below meth c s₁ B hml hv
  obtain ⟨rfl, hsz, hP, hK, hD0, hF⟩ := hv
  have hx := B.exec
  have hb := B.bytes
  have hr := B.returns
  have hts := atoms_spec (ws := wsJx4a65c_size_8abf5) B.pre
  have hown : s.vm.findClass RJx4a65c = some m.cls := findClass_of_methodNamed B.named
  have hlocks := B.notSynchronized
  have hiRJx4a65c : ∀ w ∈ u_ws RJx4a65c TJx4a65c 3, w ∈ wsJx4a65c_size_8abf5 := by decide +kernel
  subst hsz
  have hD := hD0.self (sz := s.heap.size)
  generalize hAe : va_A [(li, .inr (3, [.int 0, .ref ed, .int 0]))] s.heap.size = A at hD hF ⊢
  have hA : ∀ q : Nat, s.heap.size ≤ q → A q := fun q h => by rw [← hAe]; exact Or.inr h
  have hS : va_S A s.heap s.heap [] := va_S.rf
  have hP : va_P D vwCl [(li, .inr (3, [.int 0, .ref ed, .int 0]))] s.heap := hP
  have hl := lv_entry ([.ref li]) (n := 1) (Nat.le_of_ble_eq_true rfl)
  rw [lg_entry_eq]
  generalize (lg_sl ([.ref li]) ++ List.replicate (1 - (lg_sl ([.ref li])).length) Slot.unset).toArray = ls at hl ⊢
  have hl : lv_has ls 1 [(0, .ref li)] := hl
  refine lv_aload_n hx hb dJx4a65c_size_8abf5_0 rfl (lv_at hl 0 rfl) ?_
  refine va_get (D := D) (ci := 3) (v := .int 0) (C := RJx4a65c) (T := TJx4a65c) (N := 3) hx hb hts hiRJx4a65c hown hK hP 0 rfl rfl 2 (by decide) (hts (.fieldLink RJx4a65c 48 "java/util/ArrayList" "size" "I") (by decide +kernel)) (fun _ h9 => h9) rfl dJx4a65c_size_8abf5_1 ?_
  refine W.widen (k := 0) (n := 0) (Nat.le_of_ble_eq_true rfl) (Nat.le_of_ble_eq_true rfl) ?_
  have hP9 := hP.sub (ws' := [(li, .inr (3, [.int 0, .ref ed, .int 0]))]) [0] rfl
  have hD9 := hD.sub (ws' := [(li, .inr (3, [.int 0, .ref ed, .int 0]))]) [0] (by decide) rfl
  have hK9 := hK.sub (tys' := []) [] rfl
  exact W.iret (v := 0) hx hb hr (fun t ht hW => ⟨⟨0, ([(li, .inr (3, [.int 0, .ref ed, .int 0]))], []), rfl, ⟨rfl, rfl⟩, by rw [ht]; exact hP9, va_K.moved hW.alike hK9, hD9⟩, hS.F ht⟩) hS.2.2 dJx4a65c_size_8abf5_4
set_option maxHeartbeats 4000000 in
set_option maxRecDepth 100000 in
theorem c_X3_isFloor (l : Launch) (hst : l.stackTraces = false) (em : Nat) (D : va_G) (x : Nat) (p0 : Int32) (c1 : Nat) (p1 : Nat) (lg : Nat) (sz : Nat) : Met l yX3_isFloor wsX3_isFloor ({ frames := 0, cells := 0, slots := 0, locals := 0 }) (va_Pc [.ref x, .int p0] (tw_Pre em D sz [(x, .inr (7, [.ref c1, .ref p1, .ref lg, .int 9, .int 99, .int 0, .int 0, .int 0, .int ((-1)), .int 0, .int 0, .long 0]))] [])) (va_Qi (fun (r : Int32) (u : tw_U) => (((p0 < 0) ∨ (¬ p0 < 0 ∧ 9 < p0)) ∧ r = 0 ∧ u = ([(x, .inr (7, [.ref c1, .ref p1, .ref lg, .int 9, .int 99, .int 0, .int 0, .int 0, .int ((-1)), .int 0, .int 0, .long 0]))], [])) ∨ ((¬ p0 < 0 ∧ ¬ 9 < p0) ∧ r = 1 ∧ u = ([(x, .inr (7, [.ref c1, .ref p1, .ref lg, .int 9, .int 99, .int 0, .int 0, .int 0, .int ((-1)), .int 0, .int 0, .long 0]))], []))) (tw_B D (va_A [(x, .inr (7, [.ref c1, .ref p1, .ref lg, .int 9, .int 99, .int 0, .int 0, .int 0, .int ((-1)), .int 0, .int 0, .long 0]))] sz)) (va_A [(x, .inr (7, [.ref c1, .ref p1, .ref lg, .int 9, .int 99, .int 0, .int 0, .int 0, .int ((-1)), .int 0, .int 0, .long 0]))] sz)) 0 0 (va_A [(x, .inr (7, [.ref c1, .ref p1, .ref lg, .int 9, .int 99, .int 0, .int 0, .int 0, .int ((-1)), .int 0, .int 0, .long 0]))] sz) := by
  refine Met.ofW (cc := cX3_isFloor) (maxL := 2) (ret := (some .boolean)) (by decide) rfl ?_
  intro p e s m args below meth c s₁ B hml hv
  obtain ⟨rfl, hsz, hP, hK, hD0, hF⟩ := hv
  have hx := B.exec
  have hb := B.bytes
  have hr := B.returns
  have hts := atoms_spec (ws := wsX3_isFloor) B.pre
  have hown : s.vm.findClass RX3 = some m.cls := findClass_of_methodNamed B.named
  have hlocks := B.notSynchronized
  have hiRX3 : ∀ w ∈ u_ws RX3 TX3 12, w ∈ wsX3_isFloor := by decide +kernel
  subst hsz
  have hD := hD0.self (sz := s.heap.size)
  generalize hAe : va_A [(x, .inr (7, [.ref c1, .ref p1, .ref lg, .int 9, .int 99, .int 0, .int 0, .int 0, .int ((-1)), .int 0, .int 0, .long 0]))] s.heap.size = A at hD hF ⊢
  have hA : ∀ q : Nat, s.heap.size ≤ q → A q := fun q h => by rw [← hAe]; exact Or.inr h
  have hS : va_S A s.heap s.heap [] := va_S.rf
  have hP : va_P D vwCl [(x, .inr (7, [.ref c1, .ref p1, .ref lg, .int 9, .int 99, .int 0, .int 0, .int 0, .int ((-1)), .int 0, .int 0, .long 0]))] s.heap := hP
  have hl := lv_entry ([.ref x, .int p0]) (n := 2) (Nat.le_of_ble_eq_true rfl)
  rw [lg_entry_eq]
  generalize (lg_sl ([.ref x, .int p0]) ++ List.replicate (2 - (lg_sl ([.ref x, .int p0])).length) Slot.unset).toArray = ls at hl ⊢
  have hl : lv_has ls 2 [(0, .ref x), (1, .int p0)] := hl
  refine lv_iload_n hx hb dX3_isFloor_0 rfl (lv_at hl 1 rfl) ?_
  refine lv_if_lt (tgt := 16) hx hb dX3_isFloor_1 (by decide) (fun c_1 => ?_) (fun c_1 => ?_)
  · refine lv_iconst (v := 0) hx hb dX3_isFloor_16 (by decide) ?_
    refine W.widen (k := 0) (n := 0) (Nat.le_of_ble_eq_true rfl) (Nat.le_of_ble_eq_true rfl) ?_
    have hP9 := hP.sub (ws' := [(x, .inr (7, [.ref c1, .ref p1, .ref lg, .int 9, .int 99, .int 0, .int 0, .int 0, .int ((-1)), .int 0, .int 0, .long 0]))]) [0] rfl
    have hD9 := hD.sub (ws' := [(x, .inr (7, [.ref c1, .ref p1, .ref lg, .int 9, .int 99, .int 0, .int 0, .int 0, .int ((-1)), .int 0, .int 0, .long 0]))]) [0] (by decide) rfl
    have hK9 := hK.sub (tys' := []) [] rfl
    exact W.zret (v := 0) (ty := .boolean) hx hb hr (by decide) (fun t ht hW => ⟨⟨0, ([(x, .inr (7, [.ref c1, .ref p1, .ref lg, .int 9, .int 99, .int 0, .int 0, .int 0, .int ((-1)), .int 0, .int 0, .long 0]))], []), rfl, (Or.inl ⟨(Or.inl c_1), rfl, rfl⟩), by rw [ht]; exact hP9, va_K.moved hW.alike hK9, hD9⟩, hS.F ht⟩) hS.2.2 dX3_isFloor_17
  · refine lv_iload_n hx hb dX3_isFloor_4 rfl (lv_at hl 1 rfl) ?_
    refine lv_aload_n hx hb dX3_isFloor_5 rfl (lv_at hl 0 rfl) ?_
    refine va_get (D := D) (ci := 7) (v := .int 9) (C := RX3) (T := TX3) (N := 12) hx hb hts hiRX3 hown hK hP 0 rfl rfl 3 (by decide) (hts (.fieldLink RX3 26 "Towerliftry" "top" "I") (by decide +kernel)) (fun _ h9 => h9) rfl dX3_isFloor_6 ?_
    refine lv_icmp_gt (tgt := 16) hx hb dX3_isFloor_9 (by decide) (fun c_2 => ?_) (fun c_2 => ?_)
    · refine lv_iconst (v := 0) hx hb dX3_isFloor_16 (by decide) ?_
      refine W.widen (k := 0) (n := 0) (Nat.le_of_ble_eq_true rfl) (Nat.le_of_ble_eq_true rfl) ?_
      have hP9 := hP.sub (ws' := [(x, .inr (7, [.ref c1, .ref p1, .ref lg, .int 9, .int 99, .int 0, .int 0, .int 0, .int ((-1)), .int 0, .int 0, .long 0]))]) [0] rfl
      have hD9 := hD.sub (ws' := [(x, .inr (7, [.ref c1, .ref p1, .ref lg, .int 9, .int 99, .int 0, .int 0, .int 0, .int ((-1)), .int 0, .int 0, .long 0]))]) [0] (by decide) rfl
      have hK9 := hK.sub (tys' := []) [] rfl
      exact W.zret (v := 0) (ty := .boolean) hx hb hr (by decide) (fun t ht hW => ⟨⟨0, ([(x, .inr (7, [.ref c1, .ref p1, .ref lg, .int 9, .int 99, .int 0, .int 0, .int 0, .int ((-1)), .int 0, .int 0, .long 0]))], []), rfl, (Or.inl ⟨(Or.inr (⟨c_1, c_2⟩)), rfl, rfl⟩), by rw [ht]; exact hP9, va_K.moved hW.alike hK9, hD9⟩, hS.F ht⟩) hS.2.2 dX3_isFloor_17
    · refine lv_iconst (v := 1) hx hb dX3_isFloor_12 (by decide) ?_
      refine lv_goto (tgt := 17) hx hb dX3_isFloor_13 (by decide) ?_
      refine W.widen (k := 0) (n := 0) (Nat.le_of_ble_eq_true rfl) (Nat.le_of_ble_eq_true rfl) ?_
      have hP9 := hP.sub (ws' := [(x, .inr (7, [.ref c1, .ref p1, .ref lg, .int 9, .int 99, .int 0, .int 0, .int 0, .int ((-1)), .int 0, .int 0, .long 0]))]) [0] rfl
      have hD9 := hD.sub (ws' := [(x, .inr (7, [.ref c1, .ref p1, .ref lg, .int 9, .int 99, .int 0, .int 0, .int 0, .int ((-1)), .int 0, .int 0, .long 0]))]) [0] (by decide) rfl
      have hK9 := hK.sub (tys' := []) [] rfl
      exact W.zret (v := 1) (ty := .boolean) hx hb hr (by decide) (fun t ht hW => ⟨⟨1, ([(x, .inr (7, [.ref c1, .ref p1, .ref lg, .int 9, .int 99, .int 0, .int 0, .int 0, .int ((-1)), .int 0, .int 0, .long 0]))], []), rfl, (Or.inr (⟨⟨c_1, c_2⟩, rfl, rfl⟩)), by rw [ht]; exact hP9, va_K.moved hW.alike hK9, hD9⟩, hS.F ht⟩) hS.2.2 dX3_isFloor_17
set_option maxHeartbeats 4000000 in
set_option maxRecDepth 100000 in
theorem c_X3_checkFloor (l : Launch) (hst : l.stackTraces = false) (em : Nat) (D : va_G) (x : Nat) (p0 : Int32) (c1 : Nat) (p1 : Nat) (lg : Nat) (sz : Nat) : vx_Met l yX3_checkFloor wsX3_checkFloor ({ frames := 6, cells := 1, slots := 6, locals := 82 }) (va_Pc [.ref x, .int p0] (tw_Pre em D sz [(x, .inr (7, [.ref c1, .ref p1, .ref lg, .int 9, .int 99, .int 0, .int 0, .int 0, .int ((-1)), .int 0, .int 0, .long 0]))] [])) (va_Qv (fun (u : tw_U) => (¬ p0 < 0 ∧ ¬ 9 < p0) ∧ u = ([(x, .inr (7, [.ref c1, .ref p1, .ref lg, .int 9, .int 99, .int 0, .int 0, .int 0, .int ((-1)), .int 0, .int 0, .long 0]))], [])) (tw_B D (va_A [(x, .inr (7, [.ref c1, .ref p1, .ref lg, .int 9, .int 99, .int 0, .int 0, .int 0, .int ((-1)), .int 0, .int 0, .long 0]))] sz)) (va_A [(x, .inr (7, [.ref c1, .ref p1, .ref lg, .int 9, .int 99, .int 0, .int 0, .int 0, .int ((-1)), .int 0, .int 0, .long 0]))] sz)) (vx_X (fun (u : String × tw_U) => ((p0 < 0) ∨ (¬ p0 < 0 ∧ 9 < p0)) ∧ u = ("java/lang/IllegalArgumentException", (([(x, .inr (7, [.ref c1, .ref p1, .ref lg, .int 9, .int 99, .int 0, .int 0, .int 0, .int ((-1)), .int 0, .int 0, .long 0]))], []) : tw_U))) (tw_BX D (va_A [(x, .inr (7, [.ref c1, .ref p1, .ref lg, .int 9, .int 99, .int 0, .int 0, .int 0, .int ((-1)), .int 0, .int 0, .long 0]))] sz)) (va_A [(x, .inr (7, [.ref c1, .ref p1, .ref lg, .int 9, .int 99, .int 0, .int 0, .int 0, .int ((-1)), .int 0, .int 0, .long 0]))] sz)) 1 6 (va_A [(x, .inr (7, [.ref c1, .ref p1, .ref lg, .int 9, .int 99, .int 0, .int 0, .int 0, .int ((-1)), .int 0, .int 0, .long 0]))] sz) := by
  refine vx_ofW (cc := cX3_checkFloor) (maxL := 2) (ret := none) (by decide) rfl ?_
  intro p e s m args below meth c s₁ B hml htab hv
  obtain ⟨rfl, hsz, hP, hK, hD0, hF⟩ := hv
  have hx := B.exec
  have hb := B.bytes
  have hr := B.returns
  have hts := atoms_spec (ws := wsX3_checkFloor) B.pre
  have hown : s.vm.findClass RX3 = some m.cls := findClass_of_methodNamed B.named
  have hlocks := B.notSynchronized
  have hx41 : ∀ w ∈ (vx_atS RX3 41 "java/lang/IllegalArgumentException" ["java/lang/RuntimeException", "java/lang/Exception"]).filter goodWord, w ∈ wsX3_checkFloor := by decide +kernel
  subst hsz
  have hD := hD0.self (sz := s.heap.size)
  generalize hAe : va_A [(x, .inr (7, [.ref c1, .ref p1, .ref lg, .int 9, .int 99, .int 0, .int 0, .int 0, .int ((-1)), .int 0, .int 0, .long 0]))] s.heap.size = A at hD hF ⊢
  have hA : ∀ q : Nat, s.heap.size ≤ q → A q := fun q h => by rw [← hAe]; exact Or.inr h
  have hS : va_S A s.heap s.heap [] := va_S.rf
  have hP : va_P D vwCl [(x, .inr (7, [.ref c1, .ref p1, .ref lg, .int 9, .int 99, .int 0, .int 0, .int 0, .int ((-1)), .int 0, .int 0, .long 0]))] s.heap := hP
  have hl := lv_entry ([.ref x, .int p0]) (n := 2) (Nat.le_of_ble_eq_true rfl)
  rw [lg_entry_eq]
  generalize (lg_sl ([.ref x, .int p0]) ++ List.replicate (2 - (lg_sl ([.ref x, .int p0])).length) Slot.unset).toArray = ls at hl ⊢
  have hl : lv_has ls 2 [(0, .ref x), (1, .int p0)] := hl
  refine lv_aload_n hx hb dX3_checkFloor_0 rfl (lv_at hl 0 rfl) ?_
  refine lv_iload_n hx hb dX3_checkFloor_1 rfl (lv_at hl 1 rfl) ?_
  have hPc := hP.sub (ws' := [(x, .inr (7, [.ref c1, .ref p1, .ref lg, .int 9, .int 99, .int 0, .int 0, .int 0, .int ((-1)), .int 0, .int 0, .long 0]))]) [0] rfl
  have hDc := hD.sub (ws' := [(x, .inr (7, [.ref c1, .ref p1, .ref lg, .int 9, .int 99, .int 0, .int 0, .int 0, .int ((-1)), .int 0, .int 0, .long 0]))]) [0] (by decide) rfl
  have hKc := hK.sub (tys' := []) [] rfl
  have hFc := va_free (wc := [(x, .inr (7, [.ref c1, .ref p1, .ref lg, .int 9, .int 99, .int 0, .int 0, .int 0, .int ((-1)), .int 0, .int 0, .long 0]))]) hD hS hA [0] rfl
  refine va_calli (va_runV (As := [.int p0]) (rest := []) ⟨hx, hb, hml, hown, hts⟩ (c_X3_isFloor l hst em D x p0 c1 p1 lg _) (cwV 1 hts gX3_checkFloor_X3_isFloor rfl rfl rfl (by decide +kernel) ⟨(Nat.le_of_ble_eq_true rfl), (Nat.le_of_ble_eq_true rfl)⟩) (tw_preV hF hS hFc hPc hKc hDc (va_recv hKc hPc (ci := 7) (q0 := 0) rfl rfl)) rfl rfl hl.1 rfl (lv_room (Nat.le_of_ble_eq_true rfl)) dX3_checkFloor_2 ⟨(Nat.le_of_ble_eq_true rfl), (Nat.le_of_ble_eq_true rfl)⟩) hS (fun q _ h => hFc q h) hFc (fun r u t H locs ht hvm hw hB hz1 hk1 hS => ?_)
  rcases hw with hw | hw
  · obtain ⟨g_1, rfl, rfl⟩ := hw
    obtain ⟨hP, hD, hK⟩ := tw_join (wr := []) hP hD hK [0] [] rfl rfl (by decide) (by decide) hk1 hFc ht hvm hB
    have hP : va_P D vwCl [(x, .inr (7, [.ref c1, .ref p1, .ref lg, .int 9, .int 99, .int 0, .int 0, .int 0, .int ((-1)), .int 0, .int 0, .long 0]))] _ := hP
    have hD : va_D A [(x, .inr (7, [.ref c1, .ref p1, .ref lg, .int 9, .int 99, .int 0, .int 0, .int 0, .int ((-1)), .int 0, .int 0, .long 0]))] := hD
    have hK : va_K D vwCl [] s := hK
    refine W.widen (k := 0) (n := 0) (Nat.le_refl _) (Nat.le_refl _) ?_
    refine W.eq (g2 := F0 m 5 ls [.int 0]) rfl ?_
    refine lv_if_ne (tgt := 19) hx hb dX3_checkFloor_5 (by decide) (fun c9 => absurd c9 (by decide)) (fun c9 => ?_)
    obtain ⟨sa, hstr⟩ := tw_str hF (q := (265, "no such floor")) (by decide)
    have hP9 := hP.sub (ws' := [(x, .inr (7, [.ref c1, .ref p1, .ref lg, .int 9, .int 99, .int 0, .int 0, .int 0, .int ((-1)), .int 0, .int 0, .long 0]))]) [0] rfl
    have hD9 := hD.sub (ws' := [(x, .inr (7, [.ref c1, .ref p1, .ref lg, .int 9, .int 99, .int 0, .int 0, .int 0, .int ((-1)), .int 0, .int 0, .long 0]))]) [0] (by decide) rfl
    have hK9 := hK.sub (tys' := []) [] rfl
    exact vx_throwSW hx hb hst (own := RX3) (cls := "java/lang/IllegalArgumentException") (text := "no such floor") (names := ["java/lang/RuntimeException", "java/lang/Exception"]) (ik := 37) (is := 265) (ic := 41) hown (by decide +kernel) (by decide +kernel) (hts (.classLink RX3 37 "java/lang/IllegalArgumentException") (by decide +kernel)) (hts (.initialized "java/lang/IllegalArgumentException") (by decide +kernel)) hstr (tw_hat hF (fun w h => hts w (hx41 w h)) (by decide +kernel)) (by decide +kernel) hF.1 hF.2.1 hS (hl.1.trans hml.symm) dX3_checkFloor_8 dX3_checkFloor_11 dX3_checkFloor_12 dX3_checkFloor_15 dX3_checkFloor_18 (fun x9 h9 => (htab x9 h9).elim) (Nat.le_of_ble_eq_true rfl) (Nat.le_of_ble_eq_true rfl) (Nat.le_of_ble_eq_true rfl) (Nat.le_of_ble_eq_true rfl) hlocks (tw_exc hP9 hK9 hD9 hS _ ⟨g_1, rfl⟩) hS.2.2 (Nat.le_of_ble_eq_true rfl) (Nat.le_of_ble_eq_true rfl)
  · obtain ⟨g_2, rfl, rfl⟩ := hw
    obtain ⟨hP, hD, hK⟩ := tw_join (wr := []) hP hD hK [0] [] rfl rfl (by decide) (by decide) hk1 hFc ht hvm hB
    have hP : va_P D vwCl [(x, .inr (7, [.ref c1, .ref p1, .ref lg, .int 9, .int 99, .int 0, .int 0, .int 0, .int ((-1)), .int 0, .int 0, .long 0]))] _ := hP
    have hD : va_D A [(x, .inr (7, [.ref c1, .ref p1, .ref lg, .int 9, .int 99, .int 0, .int 0, .int 0, .int ((-1)), .int 0, .int 0, .long 0]))] := hD
    have hK : va_K D vwCl [] s := hK
    refine W.widen (k := 0) (n := 0) (Nat.le_refl _) (Nat.le_refl _) ?_
    refine W.eq (g2 := F0 m 5 ls [.int 1]) rfl ?_
    refine lv_if_ne (tgt := 19) hx hb dX3_checkFloor_5 (by decide) (fun c9 => ?_) (fun c9 => absurd c9 (by decide))
    refine W.widen (k := 1) (n := 6) (Nat.le_of_ble_eq_true rfl) (Nat.le_of_ble_eq_true rfl) ?_
    have hP9 := hP.sub (ws' := [(x, .inr (7, [.ref c1, .ref p1, .ref lg, .int 9, .int 99, .int 0, .int 0, .int 0, .int ((-1)), .int 0, .int 0, .long 0]))]) [0] rfl
    have hD9 := hD.sub (ws' := [(x, .inr (7, [.ref c1, .ref p1, .ref lg, .int 9, .int 99, .int 0, .int 0, .int 0, .int ((-1)), .int 0, .int 0, .long 0]))]) [0] (by decide) rfl
    have hK9 := hK.sub (tys' := []) [] rfl
    refine vx_ret ?_
    exact W.vret hx hb hr (fun t ht hW => ⟨⟨([(x, .inr (7, [.ref c1, .ref p1, .ref lg, .int 9, .int 99, .int 0, .int 0, .int 0, .int ((-1)), .int 0, .int 0, .long 0]))], []), rfl, ⟨g_2, rfl⟩, by rw [ht]; exact hP9, va_K.moved hW.alike hK9, hD9⟩, hS.F ht⟩) hS.2.2 dX3_checkFloor_19
set_option maxHeartbeats 4000000 in
set_option maxRecDepth 100000 in
theorem c_X3_carOf (l : Launch) (hst : l.stackTraces = false) (em : Nat) (D : va_G) (x : Nat) (p0 : Int32) (c1 : Nat) (p1 : Nat) (lg : Nat) (sz : Nat) : vx_Met l yX3_carOf wsX3_carOf ({ frames := 6, cells := 1, slots := 6, locals := 82 }) (va_Pc [.ref x, .int p0] (tw_Pre em D sz [(x, .inr (7, [.ref c1, .ref p1, .ref lg, .int 9, .int 99, .int 0, .int 0, .int 0, .int ((-1)), .int 0, .int 0, .long 0])), (c1, .inr (3, [.int 0, .ref em, .int 0]))] [])) (va_Qq (fun (r : Option Nat) (u : tw_U) => False) (tw_B D (va_A [(x, .inr (7, [.ref c1, .ref p1, .ref lg, .int 9, .int 99, .int 0, .int 0, .int 0, .int ((-1)), .int 0, .int 0, .long 0])), (c1, .inr (3, [.int 0, .ref em, .int 0]))] sz)) (va_A [(x, .inr (7, [.ref c1, .ref p1, .ref lg, .int 9, .int 99, .int 0, .int 0, .int 0, .int ((-1)), .int 0, .int 0, .long 0])), (c1, .inr (3, [.int 0, .ref em, .int 0]))] sz)) (vx_X (fun (u : String × tw_U) => u = ("java/lang/IndexOutOfBoundsException", (([(x, .inr (7, [.ref c1, .ref p1, .ref lg, .int 9, .int 99, .int 0, .int 0, .int 0, .int ((-1)), .int 0, .int 0, .long 0])), (c1, .inr (3, [.int 0, .ref em, .int 0]))], []) : tw_U))) (tw_BX D (va_A [(x, .inr (7, [.ref c1, .ref p1, .ref lg, .int 9, .int 99, .int 0, .int 0, .int 0, .int ((-1)), .int 0, .int 0, .long 0])), (c1, .inr (3, [.int 0, .ref em, .int 0]))] sz)) (va_A [(x, .inr (7, [.ref c1, .ref p1, .ref lg, .int 9, .int 99, .int 0, .int 0, .int 0, .int ((-1)), .int 0, .int 0, .long 0])), (c1, .inr (3, [.int 0, .ref em, .int 0]))] sz)) 1 6 (va_A [(x, .inr (7, [.ref c1, .ref p1, .ref lg, .int 9, .int 99, .int 0, .int 0, .int 0, .int ((-1)), .int 0, .int 0, .long 0])), (c1, .inr (3, [.int 0, .ref em, .int 0]))] sz) := by
  refine vx_ofW (cc := cX3_carOf) (maxL := 2) (ret := (some (.object "Towerliftry$Car"))) (by decide) rfl ?_
  intro p e s m args below meth c s₁ B hml htab hv
  obtain ⟨rfl, hsz, hP, hK, hD0, hF⟩ := hv
  have hx := B.exec
  have hb := B.bytes
  have hr := B.returns
  have hts := atoms_spec (ws := wsX3_carOf) B.pre
  have hown : s.vm.findClass RX3 = some m.cls := findClass_of_methodNamed B.named
  have hlocks := B.notSynchronized
  have hiRX3 : ∀ w ∈ u_ws RX3 TX3 12, w ∈ wsX3_carOf := by decide +kernel
  have hx271 : ∀ w ∈ (vx_atS RX3 271 "java/lang/IndexOutOfBoundsException" ["java/lang/RuntimeException", "java/lang/Exception"]).filter goodWord, w ∈ wsX3_carOf := by decide +kernel
  subst hsz
  have hD := hD0.self (sz := s.heap.size)
  generalize hAe : va_A [(x, .inr (7, [.ref c1, .ref p1, .ref lg, .int 9, .int 99, .int 0, .int 0, .int 0, .int ((-1)), .int 0, .int 0, .long 0])), (c1, .inr (3, [.int 0, .ref em, .int 0]))] s.heap.size = A at hD hF ⊢
  have hA : ∀ q : Nat, s.heap.size ≤ q → A q := fun q h => by rw [← hAe]; exact Or.inr h
  have hS : va_S A s.heap s.heap [] := va_S.rf
  have hP : va_P D vwCl [(x, .inr (7, [.ref c1, .ref p1, .ref lg, .int 9, .int 99, .int 0, .int 0, .int 0, .int ((-1)), .int 0, .int 0, .long 0])), (c1, .inr (3, [.int 0, .ref em, .int 0]))] s.heap := hP
  have hl := lv_entry ([.ref x, .int p0]) (n := 2) (Nat.le_of_ble_eq_true rfl)
  rw [lg_entry_eq]
  generalize (lg_sl ([.ref x, .int p0]) ++ List.replicate (2 - (lg_sl ([.ref x, .int p0])).length) Slot.unset).toArray = ls at hl ⊢
  have hl : lv_has ls 2 [(0, .ref x), (1, .int p0)] := hl
  refine lv_iload_n hx hb dX3_carOf_0 rfl (lv_at hl 1 rfl) ?_
  refine lv_if_lt (tgt := 15) hx hb dX3_carOf_1 (by decide) (fun c_1 => ?_) (fun c_1 => ?_)
  · obtain ⟨sa, hstr⟩ := tw_str hF (q := (272, "no such car")) (by decide)
    have hP9 := hP.sub (ws' := [(x, .inr (7, [.ref c1, .ref p1, .ref lg, .int 9, .int 99, .int 0, .int 0, .int 0, .int ((-1)), .int 0, .int 0, .long 0])), (c1, .inr (3, [.int 0, .ref em, .int 0]))]) [0, 1] rfl
    have hD9 := hD.sub (ws' := [(x, .inr (7, [.ref c1, .ref p1, .ref lg, .int 9, .int 99, .int 0, .int 0, .int 0, .int ((-1)), .int 0, .int 0, .long 0])), (c1, .inr (3, [.int 0, .ref em, .int 0]))]) [0, 1] (by decide) rfl
    have hK9 := hK.sub (tys' := []) [] rfl
    exact vx_throwSW hx hb hst (own := RX3) (cls := "java/lang/IndexOutOfBoundsException") (text := "no such car") (names := ["java/lang/RuntimeException", "java/lang/Exception"]) (ik := 267) (is := 272) (ic := 271) hown (by decide +kernel) (by decide +kernel) (hts (.classLink RX3 267 "java/lang/IndexOutOfBoundsException") (by decide +kernel)) (hts (.initialized "java/lang/IndexOutOfBoundsException") (by decide +kernel)) hstr (tw_hat hF (fun w h => hts w (hx271 w h)) (by decide +kernel)) (by decide +kernel) hF.1 hF.2.1 hS (hl.1.trans hml.symm) dX3_carOf_15 dX3_carOf_18 dX3_carOf_19 dX3_carOf_22 dX3_carOf_25 (fun x9 h9 => (htab x9 h9).elim) (Nat.le_of_ble_eq_true rfl) (Nat.le_of_ble_eq_true rfl) (Nat.le_of_ble_eq_true rfl) (Nat.le_of_ble_eq_true rfl) hlocks (tw_exc hP9 hK9 hD9 hS _ rfl) hS.2.2 (Nat.le_of_ble_eq_true rfl) (Nat.le_of_ble_eq_true rfl)
  · refine lv_iload_n hx hb dX3_carOf_4 rfl (lv_at hl 1 rfl) ?_
    refine lv_aload_n hx hb dX3_carOf_5 rfl (lv_at hl 0 rfl) ?_
    refine va_get (D := D) (ci := 7) (v := .ref c1) (C := RX3) (T := TX3) (N := 12) hx hb hts hiRX3 hown hK hP 0 rfl rfl 0 (by decide) (hts (.fieldLink RX3 10 "Towerliftry" "cars" "Ljava/util/ArrayList;") (by decide +kernel)) (fun _ h9 => h9) rfl dX3_carOf_6 ?_
    have hPc := hP.sub (ws' := [(c1, .inr (3, [.int 0, .ref em, .int 0]))]) [1] rfl
    have hDc := hD.sub (ws' := [(c1, .inr (3, [.int 0, .ref em, .int 0]))]) [1] (by decide) rfl
    have hKc := hK.sub (tys' := []) [] rfl
    have hFc := va_free (wc := [(c1, .inr (3, [.int 0, .ref em, .int 0]))]) hD hS hA [1] rfl
    refine va_calli (va_runV (As := []) (rest := [.int p0]) ⟨hx, hb, hml, hown, hts⟩ (c_size0 l hst em D c1 em _) (cwV 0 hts gX3_carOf_Jx4a65c_size_8abf5 rfl rfl rfl (by decide +kernel) ⟨(Nat.le_of_ble_eq_true rfl), (Nat.le_of_ble_eq_true rfl)⟩) (tw_preV hF hS hFc hPc hKc hDc (va_recv hKc hPc (ci := 3) (q0 := 0) rfl rfl)) rfl rfl hl.1 rfl (lv_room (Nat.le_of_ble_eq_true rfl)) dX3_carOf_9 ⟨(Nat.le_of_ble_eq_true rfl), (Nat.le_of_ble_eq_true rfl)⟩) hS (fun q _ h => hFc q h) hFc (fun r u t H locs ht hvm hw hB hz1 hk1 hS => ?_)
    obtain ⟨rfl, rfl⟩ := hw
    obtain ⟨hP, hD, hK⟩ := tw_join (wr := [(x, .inr (7, [.ref c1, .ref p1, .ref lg, .int 9, .int 99, .int 0, .int 0, .int 0, .int ((-1)), .int 0, .int 0, .long 0]))]) hP hD hK [1] [0] rfl rfl (by decide) (by decide) hk1 hFc ht hvm hB
    have hP : va_P D vwCl [(x, .inr (7, [.ref c1, .ref p1, .ref lg, .int 9, .int 99, .int 0, .int 0, .int 0, .int ((-1)), .int 0, .int 0, .long 0])), (c1, .inr (3, [.int 0, .ref em, .int 0]))] _ := hP
    have hD : va_D A [(x, .inr (7, [.ref c1, .ref p1, .ref lg, .int 9, .int 99, .int 0, .int 0, .int 0, .int ((-1)), .int 0, .int 0, .long 0])), (c1, .inr (3, [.int 0, .ref em, .int 0]))] := hD
    have hK : va_K D vwCl [] s := hK
    refine W.widen (k := 0) (n := 0) (Nat.le_refl _) (Nat.le_refl _) ?_
    refine W.eq (g2 := F0 m 12 ls [.int 0, .int p0]) rfl ?_
    refine lv_icmp_lt (tgt := 26) hx hb dX3_carOf_12 (by decide) (fun c_2 => absurd c_2 (by first | exact c_1 | exact not_not_intro c_1)) (fun c_2 => ?_)
    obtain ⟨sa, hstr⟩ := tw_str hF (q := (272, "no such car")) (by decide)
    have hP9 := hP.sub (ws' := [(x, .inr (7, [.ref c1, .ref p1, .ref lg, .int 9, .int 99, .int 0, .int 0, .int 0, .int ((-1)), .int 0, .int 0, .long 0])), (c1, .inr (3, [.int 0, .ref em, .int 0]))]) [0, 1] rfl
    have hD9 := hD.sub (ws' := [(x, .inr (7, [.ref c1, .ref p1, .ref lg, .int 9, .int 99, .int 0, .int 0, .int 0, .int ((-1)), .int 0, .int 0, .long 0])), (c1, .inr (3, [.int 0, .ref em, .int 0]))]) [0, 1] (by decide) rfl
    have hK9 := hK.sub (tys' := []) [] rfl
    exact vx_throwSW hx hb hst (own := RX3) (cls := "java/lang/IndexOutOfBoundsException") (text := "no such car") (names := ["java/lang/RuntimeException", "java/lang/Exception"]) (ik := 267) (is := 272) (ic := 271) hown (by decide +kernel) (by decide +kernel) (hts (.classLink RX3 267 "java/lang/IndexOutOfBoundsException") (by decide +kernel)) (hts (.initialized "java/lang/IndexOutOfBoundsException") (by decide +kernel)) hstr (tw_hat hF (fun w h => hts w (hx271 w h)) (by decide +kernel)) (by decide +kernel) hF.1 hF.2.1 hS (hl.1.trans hml.symm) dX3_carOf_15 dX3_carOf_18 dX3_carOf_19 dX3_carOf_22 dX3_carOf_25 (fun x9 h9 => (htab x9 h9).elim) (Nat.le_of_ble_eq_true rfl) (Nat.le_of_ble_eq_true rfl) (Nat.le_of_ble_eq_true rfl) (Nat.le_of_ble_eq_true rfl) hlocks (tw_exc hP9 hK9 hD9 hS _ rfl) hS.2.2 (Nat.le_of_ble_eq_true rfl) (Nat.le_of_ble_eq_true rfl)
set_option maxHeartbeats 4000000 in
set_option maxRecDepth 100000 in
theorem c_X3_personOf (l : Launch) (hst : l.stackTraces = false) (em : Nat) (D : va_G) (x : Nat) (p0 : Int32) (c1 : Nat) (p1 : Nat) (lg : Nat) (sz : Nat) : vx_Met l yX3_personOf wsX3_personOf ({ frames := 6, cells := 1, slots := 6, locals := 82 }) (va_Pc [.ref x, .int p0] (tw_Pre em D sz [(x, .inr (7, [.ref c1, .ref p1, .ref lg, .int 9, .int 99, .int 0, .int 0, .int 0, .int ((-1)), .int 0, .int 0, .long 0])), (p1, .inr (3, [.int 0, .ref em, .int 0]))] [])) (va_Qq (fun (r : Option Nat) (u : tw_U) => False) (tw_B D (va_A [(x, .inr (7, [.ref c1, .ref p1, .ref lg, .int 9, .int 99, .int 0, .int 0, .int 0, .int ((-1)), .int 0, .int 0, .long 0])), (p1, .inr (3, [.int 0, .ref em, .int 0]))] sz)) (va_A [(x, .inr (7, [.ref c1, .ref p1, .ref lg, .int 9, .int 99, .int 0, .int 0, .int 0, .int ((-1)), .int 0, .int 0, .long 0])), (p1, .inr (3, [.int 0, .ref em, .int 0]))] sz)) (vx_X (fun (u : String × tw_U) => u = ("java/lang/IndexOutOfBoundsException", (([(x, .inr (7, [.ref c1, .ref p1, .ref lg, .int 9, .int 99, .int 0, .int 0, .int 0, .int ((-1)), .int 0, .int 0, .long 0])), (p1, .inr (3, [.int 0, .ref em, .int 0]))], []) : tw_U))) (tw_BX D (va_A [(x, .inr (7, [.ref c1, .ref p1, .ref lg, .int 9, .int 99, .int 0, .int 0, .int 0, .int ((-1)), .int 0, .int 0, .long 0])), (p1, .inr (3, [.int 0, .ref em, .int 0]))] sz)) (va_A [(x, .inr (7, [.ref c1, .ref p1, .ref lg, .int 9, .int 99, .int 0, .int 0, .int 0, .int ((-1)), .int 0, .int 0, .long 0])), (p1, .inr (3, [.int 0, .ref em, .int 0]))] sz)) 1 6 (va_A [(x, .inr (7, [.ref c1, .ref p1, .ref lg, .int 9, .int 99, .int 0, .int 0, .int 0, .int ((-1)), .int 0, .int 0, .long 0])), (p1, .inr (3, [.int 0, .ref em, .int 0]))] sz) := by
  refine vx_ofW (cc := cX3_personOf) (maxL := 2) (ret := (some (.object "Towerliftry$Person"))) (by decide) rfl ?_
  intro p e s m args below meth c s₁ B hml htab hv
  obtain ⟨rfl, hsz, hP, hK, hD0, hF⟩ := hv
  have hx := B.exec
  have hb := B.bytes
  have hr := B.returns
  have hts := atoms_spec (ws := wsX3_personOf) B.pre
  have hown : s.vm.findClass RX3 = some m.cls := findClass_of_methodNamed B.named
  have hlocks := B.notSynchronized
  have hiRX3 : ∀ w ∈ u_ws RX3 TX3 12, w ∈ wsX3_personOf := by decide +kernel
  have hx271 : ∀ w ∈ (vx_atS RX3 271 "java/lang/IndexOutOfBoundsException" ["java/lang/RuntimeException", "java/lang/Exception"]).filter goodWord, w ∈ wsX3_personOf := by decide +kernel
  subst hsz
  have hD := hD0.self (sz := s.heap.size)
  generalize hAe : va_A [(x, .inr (7, [.ref c1, .ref p1, .ref lg, .int 9, .int 99, .int 0, .int 0, .int 0, .int ((-1)), .int 0, .int 0, .long 0])), (p1, .inr (3, [.int 0, .ref em, .int 0]))] s.heap.size = A at hD hF ⊢
  have hA : ∀ q : Nat, s.heap.size ≤ q → A q := fun q h => by rw [← hAe]; exact Or.inr h
  have hS : va_S A s.heap s.heap [] := va_S.rf
  have hP : va_P D vwCl [(x, .inr (7, [.ref c1, .ref p1, .ref lg, .int 9, .int 99, .int 0, .int 0, .int 0, .int ((-1)), .int 0, .int 0, .long 0])), (p1, .inr (3, [.int 0, .ref em, .int 0]))] s.heap := hP
  have hl := lv_entry ([.ref x, .int p0]) (n := 2) (Nat.le_of_ble_eq_true rfl)
  rw [lg_entry_eq]
  generalize (lg_sl ([.ref x, .int p0]) ++ List.replicate (2 - (lg_sl ([.ref x, .int p0])).length) Slot.unset).toArray = ls at hl ⊢
  have hl : lv_has ls 2 [(0, .ref x), (1, .int p0)] := hl
  refine lv_iload_n hx hb dX3_personOf_0 rfl (lv_at hl 1 rfl) ?_
  refine lv_if_lt (tgt := 15) hx hb dX3_personOf_1 (by decide) (fun c_1 => ?_) (fun c_1 => ?_)
  · obtain ⟨sa, hstr⟩ := tw_str hF (q := (274, "no such person")) (by decide)
    have hP9 := hP.sub (ws' := [(x, .inr (7, [.ref c1, .ref p1, .ref lg, .int 9, .int 99, .int 0, .int 0, .int 0, .int ((-1)), .int 0, .int 0, .long 0])), (p1, .inr (3, [.int 0, .ref em, .int 0]))]) [0, 1] rfl
    have hD9 := hD.sub (ws' := [(x, .inr (7, [.ref c1, .ref p1, .ref lg, .int 9, .int 99, .int 0, .int 0, .int 0, .int ((-1)), .int 0, .int 0, .long 0])), (p1, .inr (3, [.int 0, .ref em, .int 0]))]) [0, 1] (by decide) rfl
    have hK9 := hK.sub (tys' := []) [] rfl
    exact vx_throwSW hx hb hst (own := RX3) (cls := "java/lang/IndexOutOfBoundsException") (text := "no such person") (names := ["java/lang/RuntimeException", "java/lang/Exception"]) (ik := 267) (is := 274) (ic := 271) hown (by decide +kernel) (by decide +kernel) (hts (.classLink RX3 267 "java/lang/IndexOutOfBoundsException") (by decide +kernel)) (hts (.initialized "java/lang/IndexOutOfBoundsException") (by decide +kernel)) hstr (tw_hat hF (fun w h => hts w (hx271 w h)) (by decide +kernel)) (by decide +kernel) hF.1 hF.2.1 hS (hl.1.trans hml.symm) dX3_personOf_15 dX3_personOf_18 dX3_personOf_19 dX3_personOf_22 dX3_personOf_25 (fun x9 h9 => (htab x9 h9).elim) (Nat.le_of_ble_eq_true rfl) (Nat.le_of_ble_eq_true rfl) (Nat.le_of_ble_eq_true rfl) (Nat.le_of_ble_eq_true rfl) hlocks (tw_exc hP9 hK9 hD9 hS _ rfl) hS.2.2 (Nat.le_of_ble_eq_true rfl) (Nat.le_of_ble_eq_true rfl)
  · refine lv_iload_n hx hb dX3_personOf_4 rfl (lv_at hl 1 rfl) ?_
    refine lv_aload_n hx hb dX3_personOf_5 rfl (lv_at hl 0 rfl) ?_
    refine va_get (D := D) (ci := 7) (v := .ref p1) (C := RX3) (T := TX3) (N := 12) hx hb hts hiRX3 hown hK hP 0 rfl rfl 1 (by decide) (hts (.fieldLink RX3 16 "Towerliftry" "persons" "Ljava/util/ArrayList;") (by decide +kernel)) (fun _ h9 => h9) rfl dX3_personOf_6 ?_
    have hPc := hP.sub (ws' := [(p1, .inr (3, [.int 0, .ref em, .int 0]))]) [1] rfl
    have hDc := hD.sub (ws' := [(p1, .inr (3, [.int 0, .ref em, .int 0]))]) [1] (by decide) rfl
    have hKc := hK.sub (tys' := []) [] rfl
    have hFc := va_free (wc := [(p1, .inr (3, [.int 0, .ref em, .int 0]))]) hD hS hA [1] rfl
    refine va_calli (va_runV (As := []) (rest := [.int p0]) ⟨hx, hb, hml, hown, hts⟩ (c_size0 l hst em D p1 em _) (cwV 0 hts gX3_personOf_Jx4a65c_size_8abf5 rfl rfl rfl (by decide +kernel) ⟨(Nat.le_of_ble_eq_true rfl), (Nat.le_of_ble_eq_true rfl)⟩) (tw_preV hF hS hFc hPc hKc hDc (va_recv hKc hPc (ci := 3) (q0 := 0) rfl rfl)) rfl rfl hl.1 rfl (lv_room (Nat.le_of_ble_eq_true rfl)) dX3_personOf_9 ⟨(Nat.le_of_ble_eq_true rfl), (Nat.le_of_ble_eq_true rfl)⟩) hS (fun q _ h => hFc q h) hFc (fun r u t H locs ht hvm hw hB hz1 hk1 hS => ?_)
    obtain ⟨rfl, rfl⟩ := hw
    obtain ⟨hP, hD, hK⟩ := tw_join (wr := [(x, .inr (7, [.ref c1, .ref p1, .ref lg, .int 9, .int 99, .int 0, .int 0, .int 0, .int ((-1)), .int 0, .int 0, .long 0]))]) hP hD hK [1] [0] rfl rfl (by decide) (by decide) hk1 hFc ht hvm hB
    have hP : va_P D vwCl [(x, .inr (7, [.ref c1, .ref p1, .ref lg, .int 9, .int 99, .int 0, .int 0, .int 0, .int ((-1)), .int 0, .int 0, .long 0])), (p1, .inr (3, [.int 0, .ref em, .int 0]))] _ := hP
    have hD : va_D A [(x, .inr (7, [.ref c1, .ref p1, .ref lg, .int 9, .int 99, .int 0, .int 0, .int 0, .int ((-1)), .int 0, .int 0, .long 0])), (p1, .inr (3, [.int 0, .ref em, .int 0]))] := hD
    have hK : va_K D vwCl [] s := hK
    refine W.widen (k := 0) (n := 0) (Nat.le_refl _) (Nat.le_refl _) ?_
    refine W.eq (g2 := F0 m 12 ls [.int 0, .int p0]) rfl ?_
    refine lv_icmp_lt (tgt := 26) hx hb dX3_personOf_12 (by decide) (fun c_2 => absurd c_2 (by first | exact c_1 | exact not_not_intro c_1)) (fun c_2 => ?_)
    obtain ⟨sa, hstr⟩ := tw_str hF (q := (274, "no such person")) (by decide)
    have hP9 := hP.sub (ws' := [(x, .inr (7, [.ref c1, .ref p1, .ref lg, .int 9, .int 99, .int 0, .int 0, .int 0, .int ((-1)), .int 0, .int 0, .long 0])), (p1, .inr (3, [.int 0, .ref em, .int 0]))]) [0, 1] rfl
    have hD9 := hD.sub (ws' := [(x, .inr (7, [.ref c1, .ref p1, .ref lg, .int 9, .int 99, .int 0, .int 0, .int 0, .int ((-1)), .int 0, .int 0, .long 0])), (p1, .inr (3, [.int 0, .ref em, .int 0]))]) [0, 1] (by decide) rfl
    have hK9 := hK.sub (tys' := []) [] rfl
    exact vx_throwSW hx hb hst (own := RX3) (cls := "java/lang/IndexOutOfBoundsException") (text := "no such person") (names := ["java/lang/RuntimeException", "java/lang/Exception"]) (ik := 267) (is := 274) (ic := 271) hown (by decide +kernel) (by decide +kernel) (hts (.classLink RX3 267 "java/lang/IndexOutOfBoundsException") (by decide +kernel)) (hts (.initialized "java/lang/IndexOutOfBoundsException") (by decide +kernel)) hstr (tw_hat hF (fun w h => hts w (hx271 w h)) (by decide +kernel)) (by decide +kernel) hF.1 hF.2.1 hS (hl.1.trans hml.symm) dX3_personOf_15 dX3_personOf_18 dX3_personOf_19 dX3_personOf_22 dX3_personOf_25 (fun x9 h9 => (htab x9 h9).elim) (Nat.le_of_ble_eq_true rfl) (Nat.le_of_ble_eq_true rfl) (Nat.le_of_ble_eq_true rfl) (Nat.le_of_ble_eq_true rfl) hlocks (tw_exc hP9 hK9 hD9 hS _ rfl) hS.2.2 (Nat.le_of_ble_eq_true rfl) (Nat.le_of_ble_eq_true rfl)
set_option maxHeartbeats 4000000 in
set_option maxRecDepth 100000 in
theorem c_X3_checkEntry (l : Launch) (hst : l.stackTraces = false) (em : Nat) (D : va_G) (x : Nat) (p0 : Int32) (c1 : Nat) (p1 : Nat) (lg : Nat) (en : Nat) (sz : Nat) : vx_Met l yX3_checkEntry wsX3_checkEntry ({ frames := 6, cells := 1, slots := 6, locals := 82 }) (va_Pc [.ref x, .int p0] (tw_Pre em D sz [(x, .inr (7, [.ref c1, .ref p1, .ref lg, .int 9, .int 99, .int 0, .int 0, .int 0, .int ((-1)), .int 0, .int 0, .long 0])), (lg, .inr (5, [.ref en, .int 0]))] [])) (va_Qv (fun (u : tw_U) => False) (tw_B D (va_A [(x, .inr (7, [.ref c1, .ref p1, .ref lg, .int 9, .int 99, .int 0, .int 0, .int 0, .int ((-1)), .int 0, .int 0, .long 0])), (lg, .inr (5, [.ref en, .int 0]))] sz)) (va_A [(x, .inr (7, [.ref c1, .ref p1, .ref lg, .int 9, .int 99, .int 0, .int 0, .int 0, .int ((-1)), .int 0, .int 0, .long 0])), (lg, .inr (5, [.ref en, .int 0]))] sz)) (vx_X (fun (u : String × tw_U) => u = ("java/lang/IndexOutOfBoundsException", (([(x, .inr (7, [.ref c1, .ref p1, .ref lg, .int 9, .int 99, .int 0, .int 0, .int 0, .int ((-1)), .int 0, .int 0, .long 0])), (lg, .inr (5, [.ref en, .int 0]))], []) : tw_U))) (tw_BX D (va_A [(x, .inr (7, [.ref c1, .ref p1, .ref lg, .int 9, .int 99, .int 0, .int 0, .int 0, .int ((-1)), .int 0, .int 0, .long 0])), (lg, .inr (5, [.ref en, .int 0]))] sz)) (va_A [(x, .inr (7, [.ref c1, .ref p1, .ref lg, .int 9, .int 99, .int 0, .int 0, .int 0, .int ((-1)), .int 0, .int 0, .long 0])), (lg, .inr (5, [.ref en, .int 0]))] sz)) 1 6 (va_A [(x, .inr (7, [.ref c1, .ref p1, .ref lg, .int 9, .int 99, .int 0, .int 0, .int 0, .int ((-1)), .int 0, .int 0, .long 0])), (lg, .inr (5, [.ref en, .int 0]))] sz) := by
  refine vx_ofW (cc := cX3_checkEntry) (maxL := 2) (ret := none) (by decide) rfl ?_
  intro p e s m args below meth c s₁ B hml htab hv
  obtain ⟨rfl, hsz, hP, hK, hD0, hF⟩ := hv
  have hx := B.exec
  have hb := B.bytes
  have hr := B.returns
  have hts := atoms_spec (ws := wsX3_checkEntry) B.pre
  have hown : s.vm.findClass RX3 = some m.cls := findClass_of_methodNamed B.named
  have hlocks := B.notSynchronized
  have hiRX3 : ∀ w ∈ u_ws RX3 TX3 12, w ∈ wsX3_checkEntry := by decide +kernel
  have hiRX1 : ∀ w ∈ u_ws RX1 TX1 2, w ∈ wsX3_checkEntry := by decide +kernel
  have hx271 : ∀ w ∈ (vx_atS RX3 271 "java/lang/IndexOutOfBoundsException" ["java/lang/RuntimeException", "java/lang/Exception"]).filter goodWord, w ∈ wsX3_checkEntry := by decide +kernel
  subst hsz
  have hD := hD0.self (sz := s.heap.size)
  generalize hAe : va_A [(x, .inr (7, [.ref c1, .ref p1, .ref lg, .int 9, .int 99, .int 0, .int 0, .int 0, .int ((-1)), .int 0, .int 0, .long 0])), (lg, .inr (5, [.ref en, .int 0]))] s.heap.size = A at hD hF ⊢
  have hA : ∀ q : Nat, s.heap.size ≤ q → A q := fun q h => by rw [← hAe]; exact Or.inr h
  have hS : va_S A s.heap s.heap [] := va_S.rf
  have hP : va_P D vwCl [(x, .inr (7, [.ref c1, .ref p1, .ref lg, .int 9, .int 99, .int 0, .int 0, .int 0, .int ((-1)), .int 0, .int 0, .long 0])), (lg, .inr (5, [.ref en, .int 0]))] s.heap := hP
  have hl := lv_entry ([.ref x, .int p0]) (n := 2) (Nat.le_of_ble_eq_true rfl)
  rw [lg_entry_eq]
  generalize (lg_sl ([.ref x, .int p0]) ++ List.replicate (2 - (lg_sl ([.ref x, .int p0])).length) Slot.unset).toArray = ls at hl ⊢
  have hl : lv_has ls 2 [(0, .ref x), (1, .int p0)] := hl
  refine lv_iload_n hx hb dX3_checkEntry_0 rfl (lv_at hl 1 rfl) ?_
  refine lv_if_lt (tgt := 15) hx hb dX3_checkEntry_1 (by decide) (fun c_1 => ?_) (fun c_1 => ?_)
  · obtain ⟨sa, hstr⟩ := tw_str hF (q := (269, "no such entry")) (by decide)
    have hP9 := hP.sub (ws' := [(x, .inr (7, [.ref c1, .ref p1, .ref lg, .int 9, .int 99, .int 0, .int 0, .int 0, .int ((-1)), .int 0, .int 0, .long 0])), (lg, .inr (5, [.ref en, .int 0]))]) [0, 1] rfl
    have hD9 := hD.sub (ws' := [(x, .inr (7, [.ref c1, .ref p1, .ref lg, .int 9, .int 99, .int 0, .int 0, .int 0, .int ((-1)), .int 0, .int 0, .long 0])), (lg, .inr (5, [.ref en, .int 0]))]) [0, 1] (by decide) rfl
    have hK9 := hK.sub (tys' := []) [] rfl
    exact vx_throwSW hx hb hst (own := RX3) (cls := "java/lang/IndexOutOfBoundsException") (text := "no such entry") (names := ["java/lang/RuntimeException", "java/lang/Exception"]) (ik := 267) (is := 269) (ic := 271) hown (by decide +kernel) (by decide +kernel) (hts (.classLink RX3 267 "java/lang/IndexOutOfBoundsException") (by decide +kernel)) (hts (.initialized "java/lang/IndexOutOfBoundsException") (by decide +kernel)) hstr (tw_hat hF (fun w h => hts w (hx271 w h)) (by decide +kernel)) (by decide +kernel) hF.1 hF.2.1 hS (hl.1.trans hml.symm) dX3_checkEntry_15 dX3_checkEntry_18 dX3_checkEntry_19 dX3_checkEntry_22 dX3_checkEntry_25 (fun x9 h9 => (htab x9 h9).elim) (Nat.le_of_ble_eq_true rfl) (Nat.le_of_ble_eq_true rfl) (Nat.le_of_ble_eq_true rfl) (Nat.le_of_ble_eq_true rfl) hlocks (tw_exc hP9 hK9 hD9 hS _ rfl) hS.2.2 (Nat.le_of_ble_eq_true rfl) (Nat.le_of_ble_eq_true rfl)
  · refine lv_iload_n hx hb dX3_checkEntry_4 rfl (lv_at hl 1 rfl) ?_
    refine lv_aload_n hx hb dX3_checkEntry_5 rfl (lv_at hl 0 rfl) ?_
    refine va_get (D := D) (ci := 7) (v := .ref lg) (C := RX3) (T := TX3) (N := 12) hx hb hts hiRX3 hown hK hP 0 rfl rfl 2 (by decide) (hts (.fieldLink RX3 22 "Towerliftry" "log" "LTowerliftry$Log;") (by decide +kernel)) (fun _ h9 => h9) rfl dX3_checkEntry_6 ?_
    refine va_get (D := D) (ci := 5) (v := .int 0) (C := RX1) (T := TX1) (N := 2) hx hb hts hiRX1 hown hK hP 1 rfl rfl 1 (by decide) (hts (.fieldLink RX3 221 "Towerliftry$Log" "size" "I") (by decide +kernel)) (fun _ h9 => h9) rfl dX3_checkEntry_9 ?_
    refine lv_icmp_lt (tgt := 26) hx hb dX3_checkEntry_12 (by decide) (fun c_2 => absurd c_2 (by first | exact c_1 | exact not_not_intro c_1)) (fun c_2 => ?_)
    obtain ⟨sa, hstr⟩ := tw_str hF (q := (269, "no such entry")) (by decide)
    have hP9 := hP.sub (ws' := [(x, .inr (7, [.ref c1, .ref p1, .ref lg, .int 9, .int 99, .int 0, .int 0, .int 0, .int ((-1)), .int 0, .int 0, .long 0])), (lg, .inr (5, [.ref en, .int 0]))]) [0, 1] rfl
    have hD9 := hD.sub (ws' := [(x, .inr (7, [.ref c1, .ref p1, .ref lg, .int 9, .int 99, .int 0, .int 0, .int 0, .int ((-1)), .int 0, .int 0, .long 0])), (lg, .inr (5, [.ref en, .int 0]))]) [0, 1] (by decide) rfl
    have hK9 := hK.sub (tys' := []) [] rfl
    exact vx_throwSW hx hb hst (own := RX3) (cls := "java/lang/IndexOutOfBoundsException") (text := "no such entry") (names := ["java/lang/RuntimeException", "java/lang/Exception"]) (ik := 267) (is := 269) (ic := 271) hown (by decide +kernel) (by decide +kernel) (hts (.classLink RX3 267 "java/lang/IndexOutOfBoundsException") (by decide +kernel)) (hts (.initialized "java/lang/IndexOutOfBoundsException") (by decide +kernel)) hstr (tw_hat hF (fun w h => hts w (hx271 w h)) (by decide +kernel)) (by decide +kernel) hF.1 hF.2.1 hS (hl.1.trans hml.symm) dX3_checkEntry_15 dX3_checkEntry_18 dX3_checkEntry_19 dX3_checkEntry_22 dX3_checkEntry_25 (fun x9 h9 => (htab x9 h9).elim) (Nat.le_of_ble_eq_true rfl) (Nat.le_of_ble_eq_true rfl) (Nat.le_of_ble_eq_true rfl) (Nat.le_of_ble_eq_true rfl) hlocks (tw_exc hP9 hK9 hD9 hS _ rfl) hS.2.2 (Nat.le_of_ble_eq_true rfl) (Nat.le_of_ble_eq_true rfl)
set_option maxHeartbeats 4000000 in
set_option maxRecDepth 100000 in
theorem c_X3_setTop (l : Launch) (hst : l.stackTraces = false) (em : Nat) (D : va_G) (x : Nat) (p0 : Int32) (c1 : Nat) (p1 : Nat) (lg : Nat) (sz : Nat) : vx_Met l yX3_setTop wsX3_setTop ({ frames := 6, cells := 1, slots := 6, locals := 82 }) (va_Pc [.ref x, .int p0] (tw_Pre em D sz [(x, .inr (7, [.ref c1, .ref p1, .ref lg, .int 9, .int 99, .int 0, .int 0, .int 0, .int ((-1)), .int 0, .int 0, .long 0])), (c1, .inr (3, [.int 0, .ref em, .int 0])), (p1, .inr (3, [.int 0, .ref em, .int 0]))] [])) (va_Qi (fun (r : Int32) (u : tw_U) => (¬ p0 < 4 ∧ p0 ≤ 23) ∧ r = 9 ∧ u = ([], [])) (tw_B D (va_A [(x, .inr (7, [.ref c1, .ref p1, .ref lg, .int 9, .int 99, .int 0, .int 0, .int 0, .int ((-1)), .int 0, .int 0, .long 0])), (c1, .inr (3, [.int 0, .ref em, .int 0])), (p1, .inr (3, [.int 0, .ref em, .int 0]))] sz)) (va_A [(x, .inr (7, [.ref c1, .ref p1, .ref lg, .int 9, .int 99, .int 0, .int 0, .int 0, .int ((-1)), .int 0, .int 0, .long 0])), (c1, .inr (3, [.int 0, .ref em, .int 0])), (p1, .inr (3, [.int 0, .ref em, .int 0]))] sz)) (vx_X (fun (u : String × tw_U) => ((p0 < 4) ∨ (¬ p0 < 4 ∧ ¬ p0 ≤ 23)) ∧ u = ("java/lang/IllegalArgumentException", (([], []) : tw_U))) (tw_BX D (va_A [(x, .inr (7, [.ref c1, .ref p1, .ref lg, .int 9, .int 99, .int 0, .int 0, .int 0, .int ((-1)), .int 0, .int 0, .long 0])), (c1, .inr (3, [.int 0, .ref em, .int 0])), (p1, .inr (3, [.int 0, .ref em, .int 0]))] sz)) (va_A [(x, .inr (7, [.ref c1, .ref p1, .ref lg, .int 9, .int 99, .int 0, .int 0, .int 0, .int ((-1)), .int 0, .int 0, .long 0])), (c1, .inr (3, [.int 0, .ref em, .int 0])), (p1, .inr (3, [.int 0, .ref em, .int 0]))] sz)) 1 6 (va_A [(x, .inr (7, [.ref c1, .ref p1, .ref lg, .int 9, .int 99, .int 0, .int 0, .int 0, .int ((-1)), .int 0, .int 0, .long 0])), (c1, .inr (3, [.int 0, .ref em, .int 0])), (p1, .inr (3, [.int 0, .ref em, .int 0]))] sz) := by
  refine vx_ofW (cc := cX3_setTop) (maxL := 3) (ret := (some .int)) (by decide) rfl ?_
  intro p e s m args below meth c s₁ B hml htab hv
  obtain ⟨rfl, hsz, hP, hK, hD0, hF⟩ := hv
  have hx := B.exec
  have hb := B.bytes
  have hr := B.returns
  have hts := atoms_spec (ws := wsX3_setTop) B.pre
  have hown : s.vm.findClass RX3 = some m.cls := findClass_of_methodNamed B.named
  have hlocks := B.notSynchronized
  have hiRX3 : ∀ w ∈ u_ws RX3 TX3 12, w ∈ wsX3_setTop := by decide +kernel
  have hx41 : ∀ w ∈ (vx_atS RX3 41 "java/lang/IllegalArgumentException" ["java/lang/RuntimeException", "java/lang/Exception"]).filter goodWord, w ∈ wsX3_setTop := by decide +kernel
  subst hsz
  have hD := hD0.self (sz := s.heap.size)
  generalize hAe : va_A [(x, .inr (7, [.ref c1, .ref p1, .ref lg, .int 9, .int 99, .int 0, .int 0, .int 0, .int ((-1)), .int 0, .int 0, .long 0])), (c1, .inr (3, [.int 0, .ref em, .int 0])), (p1, .inr (3, [.int 0, .ref em, .int 0]))] s.heap.size = A at hD hF ⊢
  have hA : ∀ q : Nat, s.heap.size ≤ q → A q := fun q h => by rw [← hAe]; exact Or.inr h
  have hS : va_S A s.heap s.heap [] := va_S.rf
  have hP : va_P D vwCl [(x, .inr (7, [.ref c1, .ref p1, .ref lg, .int 9, .int 99, .int 0, .int 0, .int 0, .int ((-1)), .int 0, .int 0, .long 0])), (c1, .inr (3, [.int 0, .ref em, .int 0])), (p1, .inr (3, [.int 0, .ref em, .int 0]))] s.heap := hP
  have hl := lv_entry ([.ref x, .int p0]) (n := 3) (Nat.le_of_ble_eq_true rfl)
  rw [lg_entry_eq]
  generalize (lg_sl ([.ref x, .int p0]) ++ List.replicate (3 - (lg_sl ([.ref x, .int p0])).length) Slot.unset).toArray = ls at hl ⊢
  have hl : lv_has ls 3 [(0, .ref x), (1, .int p0)] := hl
  refine lv_iload_n hx hb dX3_setTop_0 rfl (lv_at hl 1 rfl) ?_
  refine lv_iconst (v := 4) hx hb dX3_setTop_1 (by decide) ?_
  refine lv_icmp_lt (tgt := 11) hx hb dX3_setTop_2 (by decide) (fun c_1 => ?_) (fun c_1 => ?_)
  · obtain ⟨sa, hstr⟩ := tw_str hF (q := (39, "the highest floor is out of range")) (by decide)
    have hP9 := hP.sub (ws' := []) [] rfl
    have hD9 := hD.sub (ws' := []) [] (by decide) rfl
    have hK9 := hK.sub (tys' := []) [] rfl
    exact vx_throwS hx hb hst (own := RX3) (cls := "java/lang/IllegalArgumentException") (text := "the highest floor is out of range") (names := ["java/lang/RuntimeException", "java/lang/Exception"]) (ik := 37) (is := 39) (ic := 41) hown (by decide +kernel) (by decide +kernel) (hts (.classLink RX3 37 "java/lang/IllegalArgumentException") (by decide +kernel)) (hts (.initialized "java/lang/IllegalArgumentException") (by decide +kernel)) hstr (tw_hat hF (fun w h => hts w (hx41 w h)) (by decide +kernel)) (by decide +kernel) hF.1 hF.2.1 hS (hl.1.trans hml.symm) dX3_setTop_11 dX3_setTop_14 dX3_setTop_15 dX3_setTop_17 dX3_setTop_20 (fun x9 h9 => (htab x9 h9).elim) (Nat.le_of_ble_eq_true rfl) (Nat.le_of_ble_eq_true rfl) (Nat.le_of_ble_eq_true rfl) (Nat.le_of_ble_eq_true rfl) hlocks (tw_exc hP9 hK9 hD9 hS _ ⟨(Or.inl c_1), rfl⟩) hS.2.2 (Nat.le_of_ble_eq_true rfl) (Nat.le_of_ble_eq_true rfl)
  · refine lv_iload_n hx hb dX3_setTop_5 rfl (lv_at hl 1 rfl) ?_
    refine lv_bipush (v := 23) hx hb dX3_setTop_6 (by decide) ?_
    refine lv_icmp_le (tgt := 21) hx hb dX3_setTop_8 (by decide) (fun c_2 => ?_) (fun c_2 => ?_)
    · refine lv_aload_n hx hb dX3_setTop_21 rfl (lv_at hl 0 rfl) ?_
      refine va_get (D := D) (ci := 7) (v := .ref c1) (C := RX3) (T := TX3) (N := 12) hx hb hts hiRX3 hown hK hP 0 rfl rfl 0 (by decide) (hts (.fieldLink RX3 10 "Towerliftry" "cars" "Ljava/util/ArrayList;") (by decide +kernel)) (fun _ h9 => h9) rfl dX3_setTop_22 ?_
      have hPc := hP.sub (ws' := [(c1, .inr (3, [.int 0, .ref em, .int 0]))]) [1] rfl
      have hDc := hD.sub (ws' := [(c1, .inr (3, [.int 0, .ref em, .int 0]))]) [1] (by decide) rfl
      have hKc := hK.sub (tys' := []) [] rfl
      have hFc := va_free (wc := [(c1, .inr (3, [.int 0, .ref em, .int 0]))]) hD hS hA [1] rfl
      refine va_calli (va_runV (As := []) (rest := []) ⟨hx, hb, hml, hown, hts⟩ (c_Jx4a65c_isEmpty_aae02 l hst em D c1 em _) (cwV 0 hts gX3_setTop_Jx4a65c_isEmpty_aae02 rfl rfl rfl (by decide +kernel) ⟨(Nat.le_of_ble_eq_true rfl), (Nat.le_of_ble_eq_true rfl)⟩) (tw_preV hF hS hFc hPc hKc hDc (va_recv hKc hPc (ci := 3) (q0 := 0) rfl rfl)) rfl rfl hl.1 rfl (lv_room (Nat.le_of_ble_eq_true rfl)) dX3_setTop_25 ⟨(Nat.le_of_ble_eq_true rfl), (Nat.le_of_ble_eq_true rfl)⟩) hS (fun q _ h => hFc q h) hFc (fun r u t H locs ht hvm hw hB hz1 hk1 hS => ?_)
      obtain ⟨rfl, rfl⟩ := hw
      obtain ⟨hP, hD, hK⟩ := tw_join (wr := [(x, .inr (7, [.ref c1, .ref p1, .ref lg, .int 9, .int 99, .int 0, .int 0, .int 0, .int ((-1)), .int 0, .int 0, .long 0])), (p1, .inr (3, [.int 0, .ref em, .int 0]))]) hP hD hK [1] [0, 2] rfl rfl (by decide) (by decide) hk1 hFc ht hvm hB
      have hP : va_P D vwCl [(x, .inr (7, [.ref c1, .ref p1, .ref lg, .int 9, .int 99, .int 0, .int 0, .int 0, .int ((-1)), .int 0, .int 0, .long 0])), (p1, .inr (3, [.int 0, .ref em, .int 0])), (c1, .inr (3, [.int 0, .ref em, .int 0]))] _ := hP
      have hD : va_D A [(x, .inr (7, [.ref c1, .ref p1, .ref lg, .int 9, .int 99, .int 0, .int 0, .int 0, .int ((-1)), .int 0, .int 0, .long 0])), (p1, .inr (3, [.int 0, .ref em, .int 0])), (c1, .inr (3, [.int 0, .ref em, .int 0]))] := hD
      have hK : va_K D vwCl [] s := hK
      refine W.widen (k := 0) (n := 0) (Nat.le_refl _) (Nat.le_refl _) ?_
      refine W.eq (g2 := F0 m 28 ls [.int 1]) rfl ?_
      refine lv_if_eq (tgt := 41) hx hb dX3_setTop_28 (by decide) (fun c9 => absurd c9 (by decide)) (fun c9 => ?_)
      refine lv_aload_n hx hb dX3_setTop_31 rfl (lv_at hl 0 rfl) ?_
      refine va_get (D := D) (ci := 7) (v := .ref p1) (C := RX3) (T := TX3) (N := 12) hx hb hts hiRX3 hown hK hP 0 rfl rfl 1 (by decide) (hts (.fieldLink RX3 16 "Towerliftry" "persons" "Ljava/util/ArrayList;") (by decide +kernel)) (fun _ h9 => h9) rfl dX3_setTop_32 ?_
      have hPc := hP.sub (ws' := [(p1, .inr (3, [.int 0, .ref em, .int 0]))]) [1] rfl
      have hDc := hD.sub (ws' := [(p1, .inr (3, [.int 0, .ref em, .int 0]))]) [1] (by decide) rfl
      have hKc := hK.sub (tys' := []) [] rfl
      have hFc := va_free (wc := [(p1, .inr (3, [.int 0, .ref em, .int 0]))]) hD hS hA [1] rfl
      refine va_calli (va_runV (As := []) (rest := []) ⟨hx, hb, hml, hown, hts⟩ (c_Jx4a65c_isEmpty_aae02 l hst em D p1 em _) (cwV 0 hts gX3_setTop_Jx4a65c_isEmpty_aae02 rfl rfl rfl (by decide +kernel) ⟨(Nat.le_of_ble_eq_true rfl), (Nat.le_of_ble_eq_true rfl)⟩) (tw_preV hF hS hFc hPc hKc hDc (va_recv hKc hPc (ci := 3) (q0 := 0) rfl rfl)) rfl rfl hl.1 rfl (lv_room (Nat.le_of_ble_eq_true rfl)) dX3_setTop_35 ⟨(Nat.le_of_ble_eq_true rfl), (Nat.le_of_ble_eq_true rfl)⟩) hS (fun q _ h => hFc q h) hFc (fun r u t H locs ht hvm hw hB hz1 hk1 hS => ?_)
      obtain ⟨rfl, rfl⟩ := hw
      obtain ⟨hP, hD, hK⟩ := tw_join (wr := [(x, .inr (7, [.ref c1, .ref p1, .ref lg, .int 9, .int 99, .int 0, .int 0, .int 0, .int ((-1)), .int 0, .int 0, .long 0])), (c1, .inr (3, [.int 0, .ref em, .int 0]))]) hP hD hK [1] [0, 2] rfl rfl (by decide) (by decide) hk1 hFc ht hvm hB
      have hP : va_P D vwCl [(x, .inr (7, [.ref c1, .ref p1, .ref lg, .int 9, .int 99, .int 0, .int 0, .int 0, .int ((-1)), .int 0, .int 0, .long 0])), (c1, .inr (3, [.int 0, .ref em, .int 0])), (p1, .inr (3, [.int 0, .ref em, .int 0]))] _ := hP
      have hD : va_D A [(x, .inr (7, [.ref c1, .ref p1, .ref lg, .int 9, .int 99, .int 0, .int 0, .int 0, .int ((-1)), .int 0, .int 0, .long 0])), (c1, .inr (3, [.int 0, .ref em, .int 0])), (p1, .inr (3, [.int 0, .ref em, .int 0]))] := hD
      have hK : va_K D vwCl [] s := hK
      refine W.widen (k := 0) (n := 0) (Nat.le_refl _) (Nat.le_refl _) ?_
      refine W.eq (g2 := F0 m 38 ls [.int 1]) rfl ?_
      refine lv_if_ne (tgt := 51) hx hb dX3_setTop_38 (by decide) (fun c9 => ?_) (fun c9 => absurd c9 (by decide))
      refine lv_aload_n hx hb dX3_setTop_51 rfl (lv_at hl 0 rfl) ?_
      refine va_get (D := D) (ci := 7) (v := .int 9) (C := RX3) (T := TX3) (N := 12) hx hb hts hiRX3 hown hK hP 0 rfl rfl 3 (by decide) (hts (.fieldLink RX3 26 "Towerliftry" "top" "I") (by decide +kernel)) (fun _ h9 => h9) rfl dX3_setTop_52 ?_
      refine lv_istore_n (lv' := [(2, .int 9), (0, .ref x), (1, .int p0)]) hx hb dX3_setTop_55 rfl hl (by decide) rfl (fun ls hl => ?_)
      refine lv_aload_n hx hb dX3_setTop_56 rfl (lv_at hl 1 rfl) ?_
      refine lv_iload_n hx hb dX3_setTop_57 rfl (lv_at hl 2 rfl) ?_
      refine va_put (D := D) (ci := 7) (v := .int p0) (ty := .int) (C := RX3) (T := TX3) (N := 12) hx hb hts hiRX3 tyX3 tyX3_ok nmX3 hown hK hP hD hS 0 rfl rfl 3 (by decide) (hts (.fieldLink RX3 26 "Towerliftry" "top" "I") (by decide +kernel)) (fun _ h9 => h9) rfl (by decide +kernel) rfl rfl (Nat.le_of_ble_eq_true rfl) dX3_setTop_58 (fun H locs hP hD hS => ?_)
      have hP : va_P D vwCl [(x, .inr (7, [.ref c1, .ref p1, .ref lg, .int p0, .int 99, .int 0, .int 0, .int 0, .int ((-1)), .int 0, .int 0, .long 0])), (c1, .inr (3, [.int 0, .ref em, .int 0])), (p1, .inr (3, [.int 0, .ref em, .int 0]))] _ := hP
      have hD : va_D A [(x, .inr (7, [.ref c1, .ref p1, .ref lg, .int p0, .int 99, .int 0, .int 0, .int 0, .int ((-1)), .int 0, .int 0, .long 0])), (c1, .inr (3, [.int 0, .ref em, .int 0])), (p1, .inr (3, [.int 0, .ref em, .int 0]))] := hD
      refine lv_iload_n hx hb dX3_setTop_61 rfl (lv_at hl 0 rfl) ?_
      refine W.widen (k := 1) (n := 6) (Nat.le_of_ble_eq_true rfl) (Nat.le_of_ble_eq_true rfl) ?_
      have hP9 := hP.sub (ws' := []) [] rfl
      have hD9 := hD.sub (ws' := []) [] (by decide) rfl
      have hK9 := hK.sub (tys' := []) [] rfl
      refine vx_ret ?_
      exact W.iret (v := 9) hx hb hr (fun t ht hW => ⟨⟨9, ([], []), rfl, ⟨⟨c_1, c_2⟩, rfl, rfl⟩, by rw [ht]; exact hP9, va_K.moved hW.alike hK9, hD9⟩, hS.F ht⟩) hS.2.2 dX3_setTop_62
    · obtain ⟨sa, hstr⟩ := tw_str hF (q := (39, "the highest floor is out of range")) (by decide)
      have hP9 := hP.sub (ws' := []) [] rfl
      have hD9 := hD.sub (ws' := []) [] (by decide) rfl
      have hK9 := hK.sub (tys' := []) [] rfl
      exact vx_throwS hx hb hst (own := RX3) (cls := "java/lang/IllegalArgumentException") (text := "the highest floor is out of range") (names := ["java/lang/RuntimeException", "java/lang/Exception"]) (ik := 37) (is := 39) (ic := 41) hown (by decide +kernel) (by decide +kernel) (hts (.classLink RX3 37 "java/lang/IllegalArgumentException") (by decide +kernel)) (hts (.initialized "java/lang/IllegalArgumentException") (by decide +kernel)) hstr (tw_hat hF (fun w h => hts w (hx41 w h)) (by decide +kernel)) (by decide +kernel) hF.1 hF.2.1 hS (hl.1.trans hml.symm) dX3_setTop_11 dX3_setTop_14 dX3_setTop_15 dX3_setTop_17 dX3_setTop_20 (fun x9 h9 => (htab x9 h9).elim) (Nat.le_of_ble_eq_true rfl) (Nat.le_of_ble_eq_true rfl) (Nat.le_of_ble_eq_true rfl) (Nat.le_of_ble_eq_true rfl) hlocks (tw_exc hP9 hK9 hD9 hS _ ⟨(Or.inr (⟨c_1, c_2⟩)), rfl⟩) hS.2.2 (Nat.le_of_ble_eq_true rfl) (Nat.le_of_ble_eq_true rfl)
set_option maxHeartbeats 4000000 in
set_option maxRecDepth 100000 in
theorem c_X3_setDispatcher (l : Launch) (hst : l.stackTraces = false) (em : Nat) (D : va_G) (x : Nat) (p0 : Int32) (c1 : Nat) (p1 : Nat) (lg : Nat) (hn0 : narrow .char (.int p0) = .int p0 ∧ fits .char (.int p0) = true) (sz : Nat) : vx_Met l yX3_setDispatcher wsX3_setDispatcher ({ frames := 6, cells := 1, slots := 6, locals := 82 }) (va_Pc [.ref x, .int p0] (tw_Pre em D sz [(x, .inr (7, [.ref c1, .ref p1, .ref lg, .int 9, .int 99, .int 0, .int 0, .int 0, .int ((-1)), .int 0, .int 0, .long 0]))] [])) (va_Qi (fun (r : Int32) (u : tw_U) => ((p0 = 99) ∨ (¬ p0 = 99 ∧ p0 = 122) ∨ (¬ p0 = 99 ∧ ¬ p0 = 122 ∧ p0 = 101) ∨ (¬ p0 = 99 ∧ ¬ p0 = 122 ∧ ¬ p0 = 101 ∧ p0 = 97)) ∧ r = 99 ∧ u = ([], [])) (tw_B D (va_A [(x, .inr (7, [.ref c1, .ref p1, .ref lg, .int 9, .int 99, .int 0, .int 0, .int 0, .int ((-1)), .int 0, .int 0, .long 0]))] sz)) (va_A [(x, .inr (7, [.ref c1, .ref p1, .ref lg, .int 9, .int 99, .int 0, .int 0, .int 0, .int ((-1)), .int 0, .int 0, .long 0]))] sz)) (vx_X (fun (u : String × tw_U) => (¬ p0 = 99 ∧ ¬ p0 = 122 ∧ ¬ p0 = 101 ∧ ¬ p0 = 97) ∧ u = ("java/lang/IllegalArgumentException", (([], []) : tw_U))) (tw_BX D (va_A [(x, .inr (7, [.ref c1, .ref p1, .ref lg, .int 9, .int 99, .int 0, .int 0, .int 0, .int ((-1)), .int 0, .int 0, .long 0]))] sz)) (va_A [(x, .inr (7, [.ref c1, .ref p1, .ref lg, .int 9, .int 99, .int 0, .int 0, .int 0, .int ((-1)), .int 0, .int 0, .long 0]))] sz)) 1 6 (va_A [(x, .inr (7, [.ref c1, .ref p1, .ref lg, .int 9, .int 99, .int 0, .int 0, .int 0, .int ((-1)), .int 0, .int 0, .long 0]))] sz) := by
  refine vx_ofW (cc := cX3_setDispatcher) (maxL := 3) (ret := (some .char)) (by decide) rfl ?_
  intro p e s m args below meth c s₁ B hml htab hv
  obtain ⟨rfl, hsz, hP, hK, hD0, hF⟩ := hv
  have hx := B.exec
  have hb := B.bytes
  have hr := B.returns
  have hts := atoms_spec (ws := wsX3_setDispatcher) B.pre
  have hown : s.vm.findClass RX3 = some m.cls := findClass_of_methodNamed B.named
  have hlocks := B.notSynchronized
  have hiRX3 : ∀ w ∈ u_ws RX3 TX3 12, w ∈ wsX3_setDispatcher := by decide +kernel
  have hx41 : ∀ w ∈ (vx_atS RX3 41 "java/lang/IllegalArgumentException" ["java/lang/RuntimeException", "java/lang/Exception"]).filter goodWord, w ∈ wsX3_setDispatcher := by decide +kernel
  subst hsz
  have hD := hD0.self (sz := s.heap.size)
  generalize hAe : va_A [(x, .inr (7, [.ref c1, .ref p1, .ref lg, .int 9, .int 99, .int 0, .int 0, .int 0, .int ((-1)), .int 0, .int 0, .long 0]))] s.heap.size = A at hD hF ⊢
  have hA : ∀ q : Nat, s.heap.size ≤ q → A q := fun q h => by rw [← hAe]; exact Or.inr h
  have hS : va_S A s.heap s.heap [] := va_S.rf
  have hP : va_P D vwCl [(x, .inr (7, [.ref c1, .ref p1, .ref lg, .int 9, .int 99, .int 0, .int 0, .int 0, .int ((-1)), .int 0, .int 0, .long 0]))] s.heap := hP
  have hl := lv_entry ([.ref x, .int p0]) (n := 3) (Nat.le_of_ble_eq_true rfl)
  rw [lg_entry_eq]
  generalize (lg_sl ([.ref x, .int p0]) ++ List.replicate (3 - (lg_sl ([.ref x, .int p0])).length) Slot.unset).toArray = ls at hl ⊢
  have hl : lv_has ls 3 [(0, .ref x), (1, .int p0)] := hl
  refine lv_iload_n hx hb dX3_setDispatcher_0 rfl (lv_at hl 1 rfl) ?_
  refine lv_bipush (v := 99) hx hb dX3_setDispatcher_1 (by decide) ?_
  refine lv_icmp_eq (tgt := 34) hx hb dX3_setDispatcher_3 (by decide) (fun c_1 => ?_) (fun c_1 => ?_)
  · refine lv_aload_n hx hb dX3_setDispatcher_34 rfl (lv_at hl 0 rfl) ?_
    refine va_get (D := D) (ci := 7) (v := .int 99) (C := RX3) (T := TX3) (N := 12) hx hb hts hiRX3 hown hK hP 0 rfl rfl 4 (by decide) (hts (.fieldLink RX3 30 "Towerliftry" "dispatcher" "C") (by decide +kernel)) (fun _ h9 => h9) rfl dX3_setDispatcher_35 ?_
    refine lv_istore_n (lv' := [(2, .int 99), (0, .ref x), (1, .int p0)]) hx hb dX3_setDispatcher_38 rfl hl (by decide) rfl (fun ls hl => ?_)
    refine lv_aload_n hx hb dX3_setDispatcher_39 rfl (lv_at hl 1 rfl) ?_
    refine lv_iload_n hx hb dX3_setDispatcher_40 rfl (lv_at hl 2 rfl) ?_
    refine va_put (D := D) (ci := 7) (v := .int p0) (ty := .char) (C := RX3) (T := TX3) (N := 12) hx hb hts hiRX3 tyX3 tyX3_ok nmX3 hown hK hP hD hS 0 rfl rfl 4 (by decide) (hts (.fieldLink RX3 30 "Towerliftry" "dispatcher" "C") (by decide +kernel)) (fun _ h9 => h9) rfl (by decide +kernel) hn0.1 hn0.2 (Nat.le_of_ble_eq_true rfl) dX3_setDispatcher_41 (fun H locs hP hD hS => ?_)
    have hP : va_P D vwCl [(x, .inr (7, [.ref c1, .ref p1, .ref lg, .int 9, .int p0, .int 0, .int 0, .int 0, .int ((-1)), .int 0, .int 0, .long 0]))] _ := hP
    have hD : va_D A [(x, .inr (7, [.ref c1, .ref p1, .ref lg, .int 9, .int p0, .int 0, .int 0, .int 0, .int ((-1)), .int 0, .int 0, .long 0]))] := hD
    refine lv_iload_n hx hb dX3_setDispatcher_44 rfl (lv_at hl 0 rfl) ?_
    refine W.widen (k := 1) (n := 6) (Nat.le_of_ble_eq_true rfl) (Nat.le_of_ble_eq_true rfl) ?_
    have hP9 := hP.sub (ws' := []) [] rfl
    have hD9 := hD.sub (ws' := []) [] (by decide) rfl
    have hK9 := hK.sub (tys' := []) [] rfl
    refine vx_ret ?_
    exact W.zret (v := 99) (ty := .char) hx hb hr (by decide) (fun t ht hW => ⟨⟨99, ([], []), rfl, ⟨(Or.inl c_1), rfl, rfl⟩, by rw [ht]; exact hP9, va_K.moved hW.alike hK9, hD9⟩, hS.F ht⟩) hS.2.2 dX3_setDispatcher_45
  · refine lv_iload_n hx hb dX3_setDispatcher_6 rfl (lv_at hl 1 rfl) ?_
    refine lv_bipush (v := 122) hx hb dX3_setDispatcher_7 (by decide) ?_
    refine lv_icmp_eq (tgt := 34) hx hb dX3_setDispatcher_9 (by decide) (fun c_2 => ?_) (fun c_2 => ?_)
    · refine lv_aload_n hx hb dX3_setDispatcher_34 rfl (lv_at hl 0 rfl) ?_
      refine va_get (D := D) (ci := 7) (v := .int 99) (C := RX3) (T := TX3) (N := 12) hx hb hts hiRX3 hown hK hP 0 rfl rfl 4 (by decide) (hts (.fieldLink RX3 30 "Towerliftry" "dispatcher" "C") (by decide +kernel)) (fun _ h9 => h9) rfl dX3_setDispatcher_35 ?_
      refine lv_istore_n (lv' := [(2, .int 99), (0, .ref x), (1, .int p0)]) hx hb dX3_setDispatcher_38 rfl hl (by decide) rfl (fun ls hl => ?_)
      refine lv_aload_n hx hb dX3_setDispatcher_39 rfl (lv_at hl 1 rfl) ?_
      refine lv_iload_n hx hb dX3_setDispatcher_40 rfl (lv_at hl 2 rfl) ?_
      refine va_put (D := D) (ci := 7) (v := .int p0) (ty := .char) (C := RX3) (T := TX3) (N := 12) hx hb hts hiRX3 tyX3 tyX3_ok nmX3 hown hK hP hD hS 0 rfl rfl 4 (by decide) (hts (.fieldLink RX3 30 "Towerliftry" "dispatcher" "C") (by decide +kernel)) (fun _ h9 => h9) rfl (by decide +kernel) hn0.1 hn0.2 (Nat.le_of_ble_eq_true rfl) dX3_setDispatcher_41 (fun H locs hP hD hS => ?_)
      have hP : va_P D vwCl [(x, .inr (7, [.ref c1, .ref p1, .ref lg, .int 9, .int p0, .int 0, .int 0, .int 0, .int ((-1)), .int 0, .int 0, .long 0]))] _ := hP
      have hD : va_D A [(x, .inr (7, [.ref c1, .ref p1, .ref lg, .int 9, .int p0, .int 0, .int 0, .int 0, .int ((-1)), .int 0, .int 0, .long 0]))] := hD
      refine lv_iload_n hx hb dX3_setDispatcher_44 rfl (lv_at hl 0 rfl) ?_
      refine W.widen (k := 1) (n := 6) (Nat.le_of_ble_eq_true rfl) (Nat.le_of_ble_eq_true rfl) ?_
      have hP9 := hP.sub (ws' := []) [] rfl
      have hD9 := hD.sub (ws' := []) [] (by decide) rfl
      have hK9 := hK.sub (tys' := []) [] rfl
      refine vx_ret ?_
      exact W.zret (v := 99) (ty := .char) hx hb hr (by decide) (fun t ht hW => ⟨⟨99, ([], []), rfl, ⟨(Or.inr (Or.inl ⟨c_1, c_2⟩)), rfl, rfl⟩, by rw [ht]; exact hP9, va_K.moved hW.alike hK9, hD9⟩, hS.F ht⟩) hS.2.2 dX3_setDispatcher_45
    · refine lv_iload_n hx hb dX3_setDispatcher_12 rfl (lv_at hl 1 rfl) ?_
      refine lv_bipush (v := 101) hx hb dX3_setDispatcher_13 (by decide) ?_
      refine lv_icmp_eq (tgt := 34) hx hb dX3_setDispatcher_15 (by decide) (fun c_3 => ?_) (fun c_3 => ?_)
      · refine lv_aload_n hx hb dX3_setDispatcher_34 rfl (lv_at hl 0 rfl) ?_
        refine va_get (D := D) (ci := 7) (v := .int 99) (C := RX3) (T := TX3) (N := 12) hx hb hts hiRX3 hown hK hP 0 rfl rfl 4 (by decide) (hts (.fieldLink RX3 30 "Towerliftry" "dispatcher" "C") (by decide +kernel)) (fun _ h9 => h9) rfl dX3_setDispatcher_35 ?_
        refine lv_istore_n (lv' := [(2, .int 99), (0, .ref x), (1, .int p0)]) hx hb dX3_setDispatcher_38 rfl hl (by decide) rfl (fun ls hl => ?_)
        refine lv_aload_n hx hb dX3_setDispatcher_39 rfl (lv_at hl 1 rfl) ?_
        refine lv_iload_n hx hb dX3_setDispatcher_40 rfl (lv_at hl 2 rfl) ?_
        refine va_put (D := D) (ci := 7) (v := .int p0) (ty := .char) (C := RX3) (T := TX3) (N := 12) hx hb hts hiRX3 tyX3 tyX3_ok nmX3 hown hK hP hD hS 0 rfl rfl 4 (by decide) (hts (.fieldLink RX3 30 "Towerliftry" "dispatcher" "C") (by decide +kernel)) (fun _ h9 => h9) rfl (by decide +kernel) hn0.1 hn0.2 (Nat.le_of_ble_eq_true rfl) dX3_setDispatcher_41 (fun H locs hP hD hS => ?_)
        have hP : va_P D vwCl [(x, .inr (7, [.ref c1, .ref p1, .ref lg, .int 9, .int p0, .int 0, .int 0, .int 0, .int ((-1)), .int 0, .int 0, .long 0]))] _ := hP
        have hD : va_D A [(x, .inr (7, [.ref c1, .ref p1, .ref lg, .int 9, .int p0, .int 0, .int 0, .int 0, .int ((-1)), .int 0, .int 0, .long 0]))] := hD
        refine lv_iload_n hx hb dX3_setDispatcher_44 rfl (lv_at hl 0 rfl) ?_
        refine W.widen (k := 1) (n := 6) (Nat.le_of_ble_eq_true rfl) (Nat.le_of_ble_eq_true rfl) ?_
        have hP9 := hP.sub (ws' := []) [] rfl
        have hD9 := hD.sub (ws' := []) [] (by decide) rfl
        have hK9 := hK.sub (tys' := []) [] rfl
        refine vx_ret ?_
        exact W.zret (v := 99) (ty := .char) hx hb hr (by decide) (fun t ht hW => ⟨⟨99, ([], []), rfl, ⟨(Or.inr (Or.inr (Or.inl ⟨c_1, c_2, c_3⟩))), rfl, rfl⟩, by rw [ht]; exact hP9, va_K.moved hW.alike hK9, hD9⟩, hS.F ht⟩) hS.2.2 dX3_setDispatcher_45
      · refine lv_iload_n hx hb dX3_setDispatcher_18 rfl (lv_at hl 1 rfl) ?_
        refine lv_bipush (v := 97) hx hb dX3_setDispatcher_19 (by decide) ?_
        refine lv_icmp_eq (tgt := 34) hx hb dX3_setDispatcher_21 (by decide) (fun c_4 => ?_) (fun c_4 => ?_)
        · refine lv_aload_n hx hb dX3_setDispatcher_34 rfl (lv_at hl 0 rfl) ?_
          refine va_get (D := D) (ci := 7) (v := .int 99) (C := RX3) (T := TX3) (N := 12) hx hb hts hiRX3 hown hK hP 0 rfl rfl 4 (by decide) (hts (.fieldLink RX3 30 "Towerliftry" "dispatcher" "C") (by decide +kernel)) (fun _ h9 => h9) rfl dX3_setDispatcher_35 ?_
          refine lv_istore_n (lv' := [(2, .int 99), (0, .ref x), (1, .int p0)]) hx hb dX3_setDispatcher_38 rfl hl (by decide) rfl (fun ls hl => ?_)
          refine lv_aload_n hx hb dX3_setDispatcher_39 rfl (lv_at hl 1 rfl) ?_
          refine lv_iload_n hx hb dX3_setDispatcher_40 rfl (lv_at hl 2 rfl) ?_
          refine va_put (D := D) (ci := 7) (v := .int p0) (ty := .char) (C := RX3) (T := TX3) (N := 12) hx hb hts hiRX3 tyX3 tyX3_ok nmX3 hown hK hP hD hS 0 rfl rfl 4 (by decide) (hts (.fieldLink RX3 30 "Towerliftry" "dispatcher" "C") (by decide +kernel)) (fun _ h9 => h9) rfl (by decide +kernel) hn0.1 hn0.2 (Nat.le_of_ble_eq_true rfl) dX3_setDispatcher_41 (fun H locs hP hD hS => ?_)
          have hP : va_P D vwCl [(x, .inr (7, [.ref c1, .ref p1, .ref lg, .int 9, .int p0, .int 0, .int 0, .int 0, .int ((-1)), .int 0, .int 0, .long 0]))] _ := hP
          have hD : va_D A [(x, .inr (7, [.ref c1, .ref p1, .ref lg, .int 9, .int p0, .int 0, .int 0, .int 0, .int ((-1)), .int 0, .int 0, .long 0]))] := hD
          refine lv_iload_n hx hb dX3_setDispatcher_44 rfl (lv_at hl 0 rfl) ?_
          refine W.widen (k := 1) (n := 6) (Nat.le_of_ble_eq_true rfl) (Nat.le_of_ble_eq_true rfl) ?_
          have hP9 := hP.sub (ws' := []) [] rfl
          have hD9 := hD.sub (ws' := []) [] (by decide) rfl
          have hK9 := hK.sub (tys' := []) [] rfl
          refine vx_ret ?_
          exact W.zret (v := 99) (ty := .char) hx hb hr (by decide) (fun t ht hW => ⟨⟨99, ([], []), rfl, ⟨(Or.inr (Or.inr (Or.inr (⟨c_1, c_2, c_3, c_4⟩)))), rfl, rfl⟩, by rw [ht]; exact hP9, va_K.moved hW.alike hK9, hD9⟩, hS.F ht⟩) hS.2.2 dX3_setDispatcher_45
        · obtain ⟨sa, hstr⟩ := tw_str hF (q := (95, "no such dispatcher")) (by decide)
          have hP9 := hP.sub (ws' := []) [] rfl
          have hD9 := hD.sub (ws' := []) [] (by decide) rfl
          have hK9 := hK.sub (tys' := []) [] rfl
          exact vx_throwS hx hb hst (own := RX3) (cls := "java/lang/IllegalArgumentException") (text := "no such dispatcher") (names := ["java/lang/RuntimeException", "java/lang/Exception"]) (ik := 37) (is := 95) (ic := 41) hown (by decide +kernel) (by decide +kernel) (hts (.classLink RX3 37 "java/lang/IllegalArgumentException") (by decide +kernel)) (hts (.initialized "java/lang/IllegalArgumentException") (by decide +kernel)) hstr (tw_hat hF (fun w h => hts w (hx41 w h)) (by decide +kernel)) (by decide +kernel) hF.1 hF.2.1 hS (hl.1.trans hml.symm) dX3_setDispatcher_24 dX3_setDispatcher_27 dX3_setDispatcher_28 dX3_setDispatcher_30 dX3_setDispatcher_33 (fun x9 h9 => (htab x9 h9).elim) (Nat.le_of_ble_eq_true rfl) (Nat.le_of_ble_eq_true rfl) (Nat.le_of_ble_eq_true rfl) (Nat.le_of_ble_eq_true rfl) hlocks (tw_exc hP9 hK9 hD9 hS _ ⟨⟨c_1, c_2, c_3, c_4⟩, rfl⟩) hS.2.2 (Nat.le_of_ble_eq_true rfl) (Nat.le_of_ble_eq_true rfl)
set_option maxHeartbeats 4000000 in
set_option maxRecDepth 100000 in
theorem c_X3_state (l : Launch) (hst : l.stackTraces = false) (em : Nat) (D : va_G) (x : Nat) (p0 : Int32) (c1 : Nat) (p1 : Nat) (lg : Nat) (sz : Nat) : vx_Met l yX3_state wsX3_state ({ frames := 7, cells := 1, slots := 6, locals := 103 }) (va_Pc [.ref x, .int p0] (tw_Pre em D sz [(x, .inr (7, [.ref c1, .ref p1, .ref lg, .int 9, .int 99, .int 0, .int 0, .int 0, .int ((-1)), .int 0, .int 0, .long 0])), (p1, .inr (3, [.int 0, .ref em, .int 0]))] [])) (va_Qi (fun (r : Int32) (u : tw_U) => False) (tw_B D (va_A [(x, .inr (7, [.ref c1, .ref p1, .ref lg, .int 9, .int 99, .int 0, .int 0, .int 0, .int ((-1)), .int 0, .int 0, .long 0])), (p1, .inr (3, [.int 0, .ref em, .int 0]))] sz)) (va_A [(x, .inr (7, [.ref c1, .ref p1, .ref lg, .int 9, .int 99, .int 0, .int 0, .int 0, .int ((-1)), .int 0, .int 0, .long 0])), (p1, .inr (3, [.int 0, .ref em, .int 0]))] sz)) (vx_X (fun (u : String × tw_U) => u = ("java/lang/IndexOutOfBoundsException", (([], []) : tw_U))) (tw_BX D (va_A [(x, .inr (7, [.ref c1, .ref p1, .ref lg, .int 9, .int 99, .int 0, .int 0, .int 0, .int ((-1)), .int 0, .int 0, .long 0])), (p1, .inr (3, [.int 0, .ref em, .int 0]))] sz)) (va_A [(x, .inr (7, [.ref c1, .ref p1, .ref lg, .int 9, .int 99, .int 0, .int 0, .int 0, .int ((-1)), .int 0, .int 0, .long 0])), (p1, .inr (3, [.int 0, .ref em, .int 0]))] sz)) 1 6 (va_A [(x, .inr (7, [.ref c1, .ref p1, .ref lg, .int 9, .int 99, .int 0, .int 0, .int 0, .int ((-1)), .int 0, .int 0, .long 0])), (p1, .inr (3, [.int 0, .ref em, .int 0]))] sz) := by
  refine vx_ofW (cc := cX3_state) (maxL := 2) (ret := (some .char)) (by decide) rfl ?_
  intro p e s m args below meth c s₁ B hml htab hv
  obtain ⟨rfl, hsz, hP, hK, hD0, hF⟩ := hv
  have hx := B.exec
  have hb := B.bytes
  have hr := B.returns
  have hts := atoms_spec (ws := wsX3_state) B.pre
  have hown : s.vm.findClass RX3 = some m.cls := findClass_of_methodNamed B.named
  have hlocks := B.notSynchronized
  subst hsz
  have hD := hD0.self (sz := s.heap.size)
  generalize hAe : va_A [(x, .inr (7, [.ref c1, .ref p1, .ref lg, .int 9, .int 99, .int 0, .int 0, .int 0, .int ((-1)), .int 0, .int 0, .long 0])), (p1, .inr (3, [.int 0, .ref em, .int 0]))] s.heap.size = A at hD hF ⊢
  have hA : ∀ q : Nat, s.heap.size ≤ q → A q := fun q h => by rw [← hAe]; exact Or.inr h
  have hS : va_S A s.heap s.heap [] := va_S.rf
  have hP : va_P D vwCl [(x, .inr (7, [.ref c1, .ref p1, .ref lg, .int 9, .int 99, .int 0, .int 0, .int 0, .int ((-1)), .int 0, .int 0, .long 0])), (p1, .inr (3, [.int 0, .ref em, .int 0]))] s.heap := hP
  have hl := lv_entry ([.ref x, .int p0]) (n := 2) (Nat.le_of_ble_eq_true rfl)
  rw [lg_entry_eq]
  generalize (lg_sl ([.ref x, .int p0]) ++ List.replicate (2 - (lg_sl ([.ref x, .int p0])).length) Slot.unset).toArray = ls at hl ⊢
  have hl : lv_has ls 2 [(0, .ref x), (1, .int p0)] := hl
  refine lv_aload_n hx hb dX3_state_0 rfl (lv_at hl 0 rfl) ?_
  refine lv_iload_n hx hb dX3_state_1 rfl (lv_at hl 1 rfl) ?_
  have hPc := hP.sub (ws' := [(x, .inr (7, [.ref c1, .ref p1, .ref lg, .int 9, .int 99, .int 0, .int 0, .int 0, .int ((-1)), .int 0, .int 0, .long 0])), (p1, .inr (3, [.int 0, .ref em, .int 0]))]) [0, 1] rfl
  have hDc := hD.sub (ws' := [(x, .inr (7, [.ref c1, .ref p1, .ref lg, .int 9, .int 99, .int 0, .int 0, .int 0, .int ((-1)), .int 0, .int 0, .long 0])), (p1, .inr (3, [.int 0, .ref em, .int 0]))]) [0, 1] (by decide) rfl
  have hKc := hK.sub (tys' := []) [] rfl
  have hFc := va_free (wc := [(x, .inr (7, [.ref c1, .ref p1, .ref lg, .int 9, .int 99, .int 0, .int 0, .int 0, .int ((-1)), .int 0, .int 0, .long 0])), (p1, .inr (3, [.int 0, .ref em, .int 0]))]) hD hS hA [0, 1] rfl
  refine vx_callq (vx_runV (As := [.int p0]) (rest := []) ⟨hx, hb, hml, hown, hts⟩ (c_X3_personOf l hst em D x p0 c1 p1 lg _) (cwV 1 hts gX3_state_X3_personOf rfl rfl rfl (by decide +kernel) ⟨(Nat.le_of_ble_eq_true rfl), (Nat.le_of_ble_eq_true rfl)⟩) (tw_preV hF hS hFc hPc hKc hDc (va_recv hKc hPc (ci := 7) (q0 := 0) rfl rfl)) rfl rfl hl.1 rfl (lv_room (Nat.le_of_ble_eq_true rfl)) dX3_state_2 ⟨(Nat.le_of_ble_eq_true rfl), (Nat.le_of_ble_eq_true rfl)⟩) hS (fun q _ h => hFc q h) hFc (fun q _ h => hFc q h) (fun E ce q9 u t H locs ht hvm hw hB hz1 hk1 hS hce hcv hcl => ?_) (fun r u t H locs ht hvm hw hB hz1 hk1 hS => ?_)
  · obtain ⟨hE, hB⟩ := hB
    subst hw
    subst hE
    obtain ⟨hP, hD, hK⟩ := tw_join (wr := []) hP hD hK [0, 1] [] rfl rfl (by decide) (by decide) hk1 hFc ht hvm hB
    have hP : va_P D vwCl [(x, .inr (7, [.ref c1, .ref p1, .ref lg, .int 9, .int 99, .int 0, .int 0, .int 0, .int ((-1)), .int 0, .int 0, .long 0])), (p1, .inr (3, [.int 0, .ref em, .int 0]))] _ := hP
    have hD : va_D A [(x, .inr (7, [.ref c1, .ref p1, .ref lg, .int 9, .int 99, .int 0, .int 0, .int 0, .int ((-1)), .int 0, .int 0, .long 0])), (p1, .inr (3, [.int 0, .ref em, .int 0]))] := hD
    have hK : va_K D vwCl [] s := hK
    refine vx_widen (k := 1) (n := 6) (Nat.le_of_ble_eq_true rfl) (Nat.le_of_ble_eq_true rfl) ?_
    have hP9 := hP.sub (ws' := []) [] rfl
    have hD9 := hD.sub (ws' := []) [] (by decide) rfl
    have hK9 := hK.sub (tys' := []) [] rfl
    exact vx_out (fun x9 h9 => (htab x9 h9).elim) hlocks hce hcv hcl (tw_exc2 hP9 hK9 hD9 hS _ rfl) hS.2.2 (Nat.le_refl _) (Nat.le_refl _)
  · exact hw.elim
