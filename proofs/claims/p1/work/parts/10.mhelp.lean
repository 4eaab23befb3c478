theorem dJx35411_init_45d68_0 : decode cJx35411_init_45d68 0 = .ok (.aload_n 0, 1) := by decide +kernel
theorem dJx35411_init_45d68_1 : decode cJx35411_init_45d68 1 = .ok (.aload_n 1, 1) := by decide +kernel
theorem dJx35411_init_45d68_2 : decode cJx35411_init_45d68 2 = .ok (.putfield 1, 3) := by decide +kernel
theorem dJx35411_init_45d68_5 : decode cJx35411_init_45d68 5 = .ok (.aload_n 0, 1) := by decide +kernel
theorem dJx35411_init_45d68_6 : decode cJx35411_init_45d68 6 = .ok (.invokespecial 7, 3) := by decide +kernel
theorem dJx35411_init_45d68_9 : decode cJx35411_init_45d68 9 = .ok (.aload_n 0, 1) := by decide +kernel
theorem dJx35411_init_45d68_10 : decode cJx35411_init_45d68 10 = .ok (.iconst (-1), 1) := by decide +kernel
theorem dJx35411_init_45d68_11 : decode cJx35411_init_45d68 11 = .ok (.putfield 13, 3) := by decide +kernel
theorem dJx35411_init_45d68_14 : decode cJx35411_init_45d68 14 = .ok (.aload_n 0, 1) := by decide +kernel
theorem dJx35411_init_45d68_15 : decode cJx35411_init_45d68 15 = .ok (.aload_n 0, 1) := by decide +kernel
theorem dJx35411_init_45d68_16 : decode cJx35411_init_45d68 16 = .ok (.getfield 1, 3) := by decide +kernel
theorem dJx35411_init_45d68_19 : decode cJx35411_init_45d68 19 = .ok (.getfield 17, 3) := by decide +kernel
theorem dJx35411_init_45d68_22 : decode cJx35411_init_45d68 22 = .ok (.putfield 22, 3) := by decide +kernel
theorem dJx35411_init_45d68_25 : decode cJx35411_init_45d68 25 = .ok (.return_, 1) := by decide +kernel
theorem dJx4a65c_iterator_32c93_0 : decode cJx4a65c_iterator_32c93 0 = .ok (.new 267, 3) := by decide +kernel
theorem dJx4a65c_iterator_32c93_3 : decode cJx4a65c_iterator_32c93 3 = .ok (.dup, 1) := by decide +kernel
theorem dJx4a65c_iterator_32c93_4 : decode cJx4a65c_iterator_32c93 4 = .ok (.aload_n 0, 1) := by decide +kernel
set_option maxRecDepth 20000 in
theorem ggJx4a65c_iterator_32c93_Jx35411_init_45d68 : GoodIn wsJx4a65c_iterator_32c93 wsJx35411_init_45d68 := goodIn_r _ [6, 7, 8, 9, 10, 11, 12, 13, 14, 15, 16, 17, 18, 19, 20, 21] (by decide +kernel) (by decide +kernel)
set_option maxRecDepth 20000 in
theorem gJx4a65c_iterator_32c93_Jx35411_init_45d68 : GoodIn wsJx4a65c_iterator_32c93 (wsJx35411_init_45d68) := ggJx4a65c_iterator_32c93_Jx35411_init_45d68
theorem dJx4a65c_iterator_32c93_5 : decode cJx4a65c_iterator_32c93 5 = .ok (.invokespecial 269, 3) := by decide +kernel
theorem dJx4a65c_iterator_32c93_8 : decode cJx4a65c_iterator_32c93 8 = .ok (.areturn, 1) := by decide +kernel
theorem dJx35411_hasNext_aae02_0 : decode cJx35411_hasNext_aae02 0 = .ok (.aload_n 0, 1) := by decide +kernel
theorem dJx35411_hasNext_aae02_1 : decode cJx35411_hasNext_aae02 1 = .ok (.getfield 25, 3) := by decide +kernel
theorem dJx35411_hasNext_aae02_4 : decode cJx35411_hasNext_aae02 4 = .ok (.aload_n 0, 1) := by decide +kernel
theorem dJx35411_hasNext_aae02_5 : decode cJx35411_hasNext_aae02 5 = .ok (.getfield 1, 3) := by decide +kernel
theorem dJx35411_hasNext_aae02_8 : decode cJx35411_hasNext_aae02 8 = .ok (.getfield 28, 3) := by decide +kernel
theorem dJx35411_hasNext_aae02_11 : decode cJx35411_hasNext_aae02 11 = .ok (.if_icmp .eq 7, 3) := by decide +kernel
theorem dJx35411_hasNext_aae02_18 : decode cJx35411_hasNext_aae02 18 = .ok (.iconst 0, 1) := by decide +kernel
theorem dJx35411_hasNext_aae02_19 : decode cJx35411_hasNext_aae02 19 = .ok (.ireturn, 1) := by decide +kernel
theorem dX6_in_0 : decode cX6_in 0 = .ok (.iload_n 0, 1) := by decide +kernel
theorem dX6_in_1 : decode cX6_in 1 = .ok (.iload_n 1, 1) := by decide +kernel
theorem dX6_in_2 : decode cX6_in 2 = .ok (.if_icmp .lt 12, 3) := by decide +kernel
theorem dX6_in_14 : decode cX6_in 14 = .ok (.iconst 0, 1) := by decide +kernel
theorem dX6_in_15 : decode cX6_in 15 = .ok (.ireturn, 1) := by decide +kernel
theorem dX6_in_5 : decode cX6_in 5 = .ok (.iload_n 0, 1) := by decide +kernel
theorem dX6_in_6 : decode cX6_in 6 = .ok (.iload_n 2, 1) := by decide +kernel
theorem dX6_in_7 : decode cX6_in 7 = .ok (.if_icmp .gt 7, 3) := by decide +kernel
theorem dX6_in_10 : decode cX6_in 10 = .ok (.iconst 1, 1) := by decide +kernel
theorem dX6_in_11 : decode cX6_in 11 = .ok (.goto 4, 3) := by decide +kernel
theorem dX6_row_0 : decode cX6_row 0 = .ok (.iload_n 0, 1) := by decide +kernel
theorem dX6_row_1 : decode cX6_row 1 = .ok (.ifCond .le 7, 3) := by decide +kernel
theorem dX6_row_8 : decode cX6_row 8 = .ok (.iconst 0, 1) := by decide +kernel
theorem dX6_row_9 : decode cX6_row 9 = .ok (.ireturn, 1) := by decide +kernel
theorem dX6_row_4 : decode cX6_row 4 = .ok (.iconst 1, 1) := by decide +kernel
theorem dX6_row_5 : decode cX6_row 5 = .ok (.goto 4, 3) := by decide +kernel
theorem dX6_fails_0 : decode cX6_fails 0 = .ok (.aload_n 0, 1) := by decide +kernel
theorem dX6_fails_1 : decode cX6_fails 1 = .ok (.iload_n 1, 1) := by decide +kernel
theorem dX6_fails_2 : decode cX6_fails 2 = .ok (.putfield 38, 3) := by decide +kernel
theorem dX6_fails_5 : decode cX6_fails 5 = .ok (.iconst 0, 1) := by decide +kernel
theorem dX6_fails_6 : decode cX6_fails 6 = .ok (.ireturn, 1) := by decide +kernel
theorem dX6_tells_0 : decode cX6_tells 0 = .ok (.aload_n 0, 1) := by decide +kernel
theorem dX6_tells_1 : decode cX6_tells 1 = .ok (.iconst 0, 1) := by decide +kernel
theorem dX6_tells_2 : decode cX6_tells 2 = .ok (.putfield 38, 3) := by decide +kernel
theorem dX6_tells_5 : decode cX6_tells 5 = .ok (.iload_n 1, 1) := by decide +kernel
theorem dX6_tells_6 : decode cX6_tells 6 = .ok (.ireturn, 1) := by decide +kernel
theorem dX6_thrown_0 : decode cX6_thrown 0 = .ok (.aload_n 0, 1) := by decide +kernel
theorem dX6_thrown_1 : decode cX6_thrown 1 = .ok (.getfield 38, 3) := by decide +kernel
theorem dX6_thrown_4 : decode cX6_thrown 4 = .ok (.ireturn, 1) := by decide +kernel
theorem dX6_isFloor_0 : decode cX6_isFloor 0 = .ok (.iload_n 1, 1) := by decide +kernel
theorem dX6_isFloor_1 : decode cX6_isFloor 1 = .ok (.iconst 0, 1) := by decide +kernel
theorem dX6_isFloor_2 : decode cX6_isFloor 2 = .ok (.aload_n 0, 1) := by decide +kernel
theorem dX6_isFloor_3 : decode cX6_isFloor 3 = .ok (.getfield 7, 3) := by decide +kernel
set_option maxRecDepth 20000 in
theorem ggX6_isFloor_X6_in : GoodIn wsX6_isFloor wsX6_in := goodIn_r _ [5] (by decide +kernel) (by decide +kernel)
set_option maxRecDepth 20000 in
theorem gX6_isFloor_X6_in : GoodIn wsX6_isFloor (va_wsS RX6 41 yX6_in wsX6_in) := goodIn_app (goodIn_of _ (by decide +kernel)) ggX6_isFloor_X6_in
theorem dX6_isFloor_6 : decode cX6_isFloor 6 = .ok (.invokestatic 41, 3) := by decide +kernel
theorem dX6_isFloor_9 : decode cX6_isFloor 9 = .ok (.ireturn, 1) := by decide +kernel
theorem dX6_isCar_0 : decode cX6_isCar 0 = .ok (.iload_n 1, 1) := by decide +kernel
theorem dX6_isCar_1 : decode cX6_isCar 1 = .ok (.iconst 0, 1) := by decide +kernel
theorem dX6_isCar_2 : decode cX6_isCar 2 = .ok (.aload_n 0, 1) := by decide +kernel
theorem dX6_isCar_3 : decode cX6_isCar 3 = .ok (.getfield 20, 3) := by decide +kernel
set_option maxRecDepth 20000 in
theorem ggX6_isCar_Jx4a65c_size_8abf5 : GoodIn wsX6_isCar wsJx4a65c_size_8abf5 := goodIn_r _ [6, 7, 24, 25, 26] (by decide +kernel) (by decide +kernel)
set_option maxRecDepth 20000 in
theorem gX6_isCar_Jx4a65c_size_8abf5 : GoodIn wsX6_isCar (wsV RX6 94 RJx4a65c yJx4a65c_size_8abf5 wsJx4a65c_size_8abf5) := goodIn_app (goodIn_of _ (by decide +kernel)) ggX6_isCar_Jx4a65c_size_8abf5
theorem dX6_isCar_6 : decode cX6_isCar 6 = .ok (.invokevirtual 94, 3) := by decide +kernel
theorem dX6_isCar_9 : decode cX6_isCar 9 = .ok (.iconst 1, 1) := by decide +kernel
theorem dX6_isCar_10 : decode cX6_isCar 10 = .ok (.isub, 1) := by decide +kernel
set_option maxRecDepth 20000 in
theorem ggX6_isCar_X6_in : GoodIn wsX6_isCar wsX6_in := goodIn_r _ [11] (by decide +kernel) (by decide +kernel)
set_option maxRecDepth 20000 in
theorem gX6_isCar_X6_in : GoodIn wsX6_isCar (va_wsS RX6 41 yX6_in wsX6_in) := goodIn_app (goodIn_of _ (by decide +kernel)) ggX6_isCar_X6_in
theorem dX6_isCar_11 : decode cX6_isCar 11 = .ok (.invokestatic 41, 3) := by decide +kernel
theorem dX6_isCar_14 : decode cX6_isCar 14 = .ok (.ireturn, 1) := by decide +kernel
theorem dX6_isPerson_0 : decode cX6_isPerson 0 = .ok (.iload_n 1, 1) := by decide +kernel
theorem dX6_isPerson_1 : decode cX6_isPerson 1 = .ok (.iconst 0, 1) := by decide +kernel
theorem dX6_isPerson_2 : decode cX6_isPerson 2 = .ok (.aload_n 0, 1) := by decide +kernel
theorem dX6_isPerson_3 : decode cX6_isPerson 3 = .ok (.getfield 24, 3) := by decide +kernel
set_option maxRecDepth 20000 in
theorem ggX6_isPerson_Jx4a65c_size_8abf5 : GoodIn wsX6_isPerson wsJx4a65c_size_8abf5 := goodIn_r _ [6, 7, 24, 25, 26] (by decide +kernel) (by decide +kernel)
set_option maxRecDepth 20000 in
theorem gX6_isPerson_Jx4a65c_size_8abf5 : GoodIn wsX6_isPerson (wsV RX6 94 RJx4a65c yJx4a65c_size_8abf5 wsJx4a65c_size_8abf5) := goodIn_app (goodIn_of _ (by decide +kernel)) ggX6_isPerson_Jx4a65c_size_8abf5
theorem dX6_isPerson_6 : decode cX6_isPerson 6 = .ok (.invokevirtual 94, 3) := by decide +kernel
theorem dX6_isPerson_9 : decode cX6_isPerson 9 = .ok (.iconst 1, 1) := by decide +kernel
theorem dX6_isPerson_10 : decode cX6_isPerson 10 = .ok (.isub, 1) := by decide +kernel
set_option maxRecDepth 20000 in
theorem ggX6_isPerson_X6_in : GoodIn wsX6_isPerson wsX6_in := goodIn_r _ [11] (by decide +kernel) (by decide +kernel)
set_option maxRecDepth 20000 in
theorem gX6_isPerson_X6_in : GoodIn wsX6_isPerson (va_wsS RX6 41 yX6_in wsX6_in) := goodIn_app (goodIn_of _ (by decide +kernel)) ggX6_isPerson_X6_in
theorem dX6_isPerson_11 : decode cX6_isPerson 11 = .ok (.invokestatic 41, 3) := by decide +kernel
theorem dX6_isPerson_14 : decode cX6_isPerson 14 = .ok (.ireturn, 1) := by decide +kernel
theorem dX6_isEntry_0 : decode cX6_isEntry 0 = .ok (.iload_n 1, 1) := by decide +kernel
theorem dX6_isEntry_1 : decode cX6_isEntry 1 = .ok (.iconst 0, 1) := by decide +kernel
theorem dX6_isEntry_2 : decode cX6_isEntry 2 = .ok (.aload_n 0, 1) := by decide +kernel
theorem dX6_isEntry_3 : decode cX6_isEntry 3 = .ok (.getfield 35, 3) := by decide +kernel
set_option maxRecDepth 20000 in
theorem ggX6_isEntry_Jx4a65c_size_8abf5 : GoodIn wsX6_isEntry wsJx4a65c_size_8abf5 := goodIn_r _ [6, 7, 24, 25, 26] (by decide +kernel) (by decide +kernel)
set_option maxRecDepth 20000 in
theorem gX6_isEntry_Jx4a65c_size_8abf5 : GoodIn wsX6_isEntry (wsV RX6 94 RJx4a65c yJx4a65c_size_8abf5 wsJx4a65c_size_8abf5) := goodIn_app (goodIn_of _ (by decide +kernel)) ggX6_isEntry_Jx4a65c_size_8abf5
theorem dX6_isEntry_6 : decode cX6_isEntry 6 = .ok (.invokevirtual 94, 3) := by decide +kernel
theorem dX6_isEntry_9 : decode cX6_isEntry 9 = .ok (.iconst 1, 1) := by decide +kernel
theorem dX6_isEntry_10 : decode cX6_isEntry 10 = .ok (.isub, 1) := by decide +kernel
set_option maxRecDepth 20000 in
theorem ggX6_isEntry_X6_in : GoodIn wsX6_isEntry wsX6_in := goodIn_r _ [11] (by decide +kernel) (by decide +kernel)
set_option maxRecDepth 20000 in
theorem gX6_isEntry_X6_in : GoodIn wsX6_isEntry (va_wsS RX6 41 yX6_in wsX6_in) := goodIn_app (goodIn_of _ (by decide +kernel)) ggX6_isEntry_X6_in
theorem dX6_isEntry_11 : decode cX6_isEntry 11 = .ok (.invokestatic 41, 3) := by decide +kernel
theorem dX6_isEntry_14 : decode cX6_isEntry 14 = .ok (.ireturn, 1) := by decide +kernel
set_option maxHeartbeats 4000000 in
set_option maxRecDepth 100000 in
theorem c_Jx35411_init_45d68 (l : Launch) (hst : l.stackTraces = false) (em kw kb : Nat) (D : va_G) (it : Nat) (li : Nat) (ed : Nat) (sz : Nat) : Met l yJx35411_init_45d68 wsJx35411_init_45d68 ({ frames := 1, cells := 0, slots := 0, locals := 12 }) (va_Pc [.ref it, .ref li] (tw_Pre em kw kb D sz [(it, .inr (2, [.int 0, .int 0, .int 0, .null])), (li, .inr (3, [.int 0, .ref ed, .int 0]))] [])) (va_Qv (fun (u : tw_U) => u = ([(it, .inr (2, [.int 0, .int ((-1)), .int 0, .ref li])), (li, .inr (3, [.int 0, .ref ed, .int 0]))], [])) (tw_B D (va_A [(it, .inr (2, [.int 0, .int 0, .int 0, .null])), (li, .inr (3, [.int 0, .ref ed, .int 0]))] sz)) (va_A [(it, .inr (2, [.int 0, .int 0, .int 0, .null])), (li, .inr (3, [.int 0, .ref ed, .int 0]))] sz)) 0 0 (va_A [(it, .inr (2, [.int 0, .int 0, .int 0, .null])), (li, .inr (3, [.int 0, .ref ed, .int 0]))] sz) := by
  refine Met.ofW (cc := cJx35411_init_45d68) (maxL := 2) (ret := none) (by decide) rfl ?_
  intro p e s m args below meth c s₁ B hml hv
  obtain ⟨rfl, hsz, hP, hK, hD0, hF⟩ := hv
  have hx := B.exec
  have hb := B.bytes
  have hr := B.returns
  have hts := atoms_spec (ws := wsJx35411_init_45d68) B.pre
  have hown : s.vm.findClass RJx35411 = some m.cls := findClass_of_methodNamed B.named
  have hlocks := B.notSynchronized
  have hin : meth.name = "<init>" := (name_of_methodNamed B.named B.method).1
  have hiRJx35411 : ∀ w ∈ u_ws RJx35411 TJx35411 4, w ∈ wsJx35411_init_45d68 := by decide +kernel
  have hiRJx4a65c : ∀ w ∈ u_ws RJx4a65c TJx4a65c 3, w ∈ wsJx35411_init_45d68 := by decide +kernel
  subst hsz
  have hD := hD0.self (sz := s.heap.size)
  generalize hAe : va_A [(it, .inr (2, [.int 0, .int 0, .int 0, .null])), (li, .inr (3, [.int 0, .ref ed, .int 0]))] s.heap.size = A at hD hF ⊢
  have hA : ∀ q : Nat, s.heap.size ≤ q → A q := fun q h => by rw [← hAe]; exact Or.inr h
  have hS : va_S A s.heap s.heap [] := va_S.rf
  have hP : va_P D vwCl [(it, .inr (2, [.int 0, .int 0, .int 0, .null])), (li, .inr (3, [.int 0, .ref ed, .int 0]))] s.heap := hP
  have hl := lv_entry ([.ref it, .ref li]) (n := 2) (Nat.le_of_ble_eq_true rfl)
  rw [lg_entry_eq]
  generalize (lg_sl ([.ref it, .ref li]) ++ List.replicate (2 - (lg_sl ([.ref it, .ref li])).length) Slot.unset).toArray = ls at hl ⊢
  have hl : lv_has ls 2 [(0, .ref it), (1, .ref li)] := hl
  refine lv_aload_n hx hb dJx35411_init_45d68_0 rfl (lv_at hl 0 rfl) ?_
  refine lv_aload_n hx hb dJx35411_init_45d68_1 rfl (lv_at hl 1 rfl) ?_
  refine va_putF (D := D) (ci := 2) (v := .ref li) (ty := .object "java/util/ArrayList") (C := RJx35411) (T := TJx35411) (N := 4) hx hb hts hiRJx35411 tyJx35411 tyJx35411_ok nmJx35411 hown hK hP hD hS 0 rfl rfl 3 (by decide) (hts (.fieldLink RJx35411 1 "java/util/ArrayList$Itr" "this$0" "Ljava/util/ArrayList;") (by decide +kernel)) (fun _ h9 => h9) rfl hin rfl (by decide +kernel) rfl rfl (Nat.le_of_ble_eq_true rfl) dJx35411_init_45d68_2 (fun H locs hP hD hS => ?_)
  have hP : va_P D vwCl [(it, .inr (2, [.int 0, .int 0, .int 0, .ref li])), (li, .inr (3, [.int 0, .ref ed, .int 0]))] _ := hP
  have hD : va_D A [(it, .inr (2, [.int 0, .int 0, .int 0, .ref li])), (li, .inr (3, [.int 0, .ref ed, .int 0]))] := hD
  refine lv_aload_n hx hb dJx35411_init_45d68_5 rfl (lv_at hl 0 rfl) ?_
  refine W.objInit hx hb hown (hts (.methodLink RJx35411 7 objectInit) (by decide +kernel)) (hts (.instanceMethod objectInit) (by decide +kernel)) (hts (.code objectInit ⟨#[0xb1]⟩ 1 none) (by decide +kernel)) rfl (by rw [hml]; exact hl.1) rfl dJx35411_init_45d68_6 (Nat.le_of_ble_eq_true rfl) (Nat.le_of_ble_eq_true rfl) ?_
  refine W.eq (g2 := F0 m 9 ls []) rfl ?_
  refine lv_aload_n hx hb dJx35411_init_45d68_9 rfl (lv_at hl 0 rfl) ?_
  refine lv_iconst (v := (-1)) hx hb dJx35411_init_45d68_10 (by decide) ?_
  refine va_put (D := D) (ci := 2) (v := .int ((-1))) (ty := .int) (C := RJx35411) (T := TJx35411) (N := 4) hx hb hts hiRJx35411 tyJx35411 tyJx35411_ok nmJx35411 hown hK hP hD hS 0 rfl rfl 1 (by decide) (hts (.fieldLink RJx35411 13 "java/util/ArrayList$Itr" "lastRet" "I") (by decide +kernel)) (fun _ h9 => h9) rfl (by decide +kernel) rfl rfl (Nat.le_of_ble_eq_true rfl) dJx35411_init_45d68_11 (fun H locs hP hD hS => ?_)
  have hP : va_P D vwCl [(it, .inr (2, [.int 0, .int ((-1)), .int 0, .ref li])), (li, .inr (3, [.int 0, .ref ed, .int 0]))] _ := hP
  have hD : va_D A [(it, .inr (2, [.int 0, .int ((-1)), .int 0, .ref li])), (li, .inr (3, [.int 0, .ref ed, .int 0]))] := hD
  refine lv_aload_n hx hb dJx35411_init_45d68_14 rfl (lv_at hl 0 rfl) ?_
  refine lv_aload_n hx hb dJx35411_init_45d68_15 rfl (lv_at hl 0 rfl) ?_
  refine va_get (D := D) (ci := 2) (v := .ref li) (C := RJx35411) (T := TJx35411) (N := 4) hx hb hts hiRJx35411 hown hK hP 0 rfl rfl 3 (by decide) (hts (.fieldLink RJx35411 1 "java/util/ArrayList$Itr" "this$0" "Ljava/util/ArrayList;") (by decide +kernel)) (fun _ h9 => h9) rfl dJx35411_init_45d68_16 ?_
  refine va_get (D := D) (ci := 3) (v := .int 0) (C := RJx4a65c) (T := TJx4a65c) (N := 3) hx hb hts hiRJx4a65c hown hK hP 1 rfl rfl 0 (by decide) (hts (.fieldLink RJx35411 17 "java/util/ArrayList" "modCount" "I") (by decide +kernel)) (u_same (hts (.sameField "java/util/ArrayList" "java/util/AbstractList" "modCount" "I") (by decide +kernel))) rfl dJx35411_init_45d68_19 ?_
  refine va_put (D := D) (ci := 2) (v := .int 0) (ty := .int) (C := RJx35411) (T := TJx35411) (N := 4) hx hb hts hiRJx35411 tyJx35411 tyJx35411_ok nmJx35411 hown hK hP hD hS 0 rfl rfl 2 (by decide) (hts (.fieldLink RJx35411 22 "java/util/ArrayList$Itr" "expectedModCount" "I") (by decide +kernel)) (fun _ h9 => h9) rfl (by decide +kernel) rfl rfl (Nat.le_of_ble_eq_true rfl) dJx35411_init_45d68_22 (fun H locs hP hD hS => ?_)
  have hP : va_P D vwCl [(it, .inr (2, [.int 0, .int ((-1)), .int 0, .ref li])), (li, .inr (3, [.int 0, .ref ed, .int 0]))] _ := hP
  have hD : va_D A [(it, .inr (2, [.int 0, .int ((-1)), .int 0, .ref li])), (li, .inr (3, [.int 0, .ref ed, .int 0]))] := hD
  refine W.widen (k := 0) (n := 0) (Nat.le_of_ble_eq_true rfl) (Nat.le_of_ble_eq_true rfl) ?_
  have hP9 := hP.sub (ws' := [(it, .inr (2, [.int 0, .int ((-1)), .int 0, .ref li])), (li, .inr (3, [.int 0, .ref ed, .int 0]))]) [0, 1] rfl
  have hD9 := hD.sub (ws' := [(it, .inr (2, [.int 0, .int ((-1)), .int 0, .ref li])), (li, .inr (3, [.int 0, .ref ed, .int 0]))]) [0, 1] (by decide) rfl
  have hK9 := hK.sub (tys' := []) [] rfl
  exact W.vret hx hb hr (fun t ht hW => ⟨⟨([(it, .inr (2, [.int 0, .int ((-1)), .int 0, .ref li])), (li, .inr (3, [.int 0, .ref ed, .int 0]))], []), rfl, rfl, by rw [ht]; exact hP9, va_K.moved hW.alike hK9, hD9⟩, hS.F ht⟩) hS.2.2 dJx35411_init_45d68_25
set_option maxHeartbeats 4000000 in
set_option maxRecDepth 100000 in
theorem c_Jx4a65c_iterator_32c93 (l : Launch) (hst : l.stackTraces = false) (em kw kb : Nat) (D : va_G) (li : Nat) (ed : Nat) (sz : Nat) : Met l yJx4a65c_iterator_32c93 wsJx4a65c_iterator_32c93 ({ frames := 2, cells := 1, slots := 4, locals := 33 }) (va_Pc [.ref li] (tw_Pre em kw kb D sz [(li, .inr (3, [.int 0, .ref ed, .int 0]))] [])) (va_Qq (fun (r : Option Nat) (u : tw_U) => ∃ (w0 : Nat), r = some w0 ∧ u = ([(w0, .inr (2, [.int 0, .int ((-1)), .int 0, .ref li])), (li, .inr (3, [.int 0, .ref ed, .int 0]))], [])) (tw_B D (va_A [(li, .inr (3, [.int 0, .ref ed, .int 0]))] sz)) (va_A [(li, .inr (3, [.int 0, .ref ed, .int 0]))] sz)) 1 4 (va_A [(li, .inr (3, [.int 0, .ref ed, .int 0]))] sz) := by
  refine Met.ofW (cc := cJx4a65c_iterator_32c93) (maxL := 1) (ret := (some (.object "java/util/Iterator"))) (by decide) rfl ?_
  intro p e s m args below meth c s₁ B hml hv
  obtain ⟨rfl, hsz, hP, hK, hD0, hF⟩ := hv
  have hx := B.exec
  have hb := B.bytes
  have hr := B.returns
  have hts := atoms_spec (ws := wsJx4a65c_iterator_32c93) B.pre
  have hown : s.vm.findClass RJx4a65c = some m.cls := findClass_of_methodNamed B.named
  have hlocks := B.notSynchronized
  have hiRJx35411 : ∀ w ∈ u_ws RJx35411 TJx35411 4, w ∈ wsJx4a65c_iterator_32c93 := by decide +kernel
  subst hsz
  have hD := hD0.self (sz := s.heap.size)
  generalize hAe : va_A [(li, .inr (3, [.int 0, .ref ed, .int 0]))] s.heap.size = A at hD hF ⊢
  have hA : ∀ q : Nat, s.heap.size ≤ q → A q := fun q h => by rw [← hAe]; exact Or.inr h
  have hS : va_S A s.heap s.heap [] := va_S.rf
  have hP : va_P D vwCl [(li, .inr (3, [.int 0, .ref ed, .int 0]))] s.heap := hP
  have hl := lv_entry ([.ref li]) (n := 1) (Nat.le_of_ble_eq_true rfl)
  rw [lg_entry_eq]
  generalize (lg_sl ([.ref li]) ++ List.replicate (1 - (lg_sl ([.ref li])).length) Slot.unset).toArray = ls at hl ⊢
  have hl : lv_has ls 1 [(0, .ref li)] := hl
  refine va_new (ci := 2) (fs := [.int 0, .int 0, .int 0, .null]) (C := RJx35411) (T := TJx35411) (N := 4) hx hb hts hiRJx35411 tyJx35411 tyJx35411_ok hown (hts (.classLink RJx4a65c 267 RJx35411) (by decide +kernel)) (hts (.instantiable RJx35411 4) (by decide +kernel)) (hts (.initialized RJx35411) (by decide +kernel)) hK hP hD hS hA rfl (by decide +kernel) (Nat.le_of_ble_eq_true rfl) (Nat.le_of_ble_eq_true rfl) dJx4a65c_iterator_32c93_0 (fun q_1 H hP hD hS => ?_)
  have hP : va_P D vwCl [(li, .inr (3, [.int 0, .ref ed, .int 0])), (q_1, .inr (2, [.int 0, .int 0, .int 0, .null]))] _ := hP
  have hD : va_D A [(li, .inr (3, [.int 0, .ref ed, .int 0])), (q_1, .inr (2, [.int 0, .int 0, .int 0, .null]))] := hD
  refine W.widen (k := 1) (n := 4) (Nat.le_refl _) (Nat.le_refl _) ?_
  refine lv_dup hx hb dJx4a65c_iterator_32c93_3 rfl ?_
  refine lv_aload_n hx hb dJx4a65c_iterator_32c93_4 rfl (lv_at hl 0 rfl) ?_
  have hPc := hP.sub (ws' := [(q_1, .inr (2, [.int 0, .int 0, .int 0, .null])), (li, .inr (3, [.int 0, .ref ed, .int 0]))]) [1, 0] rfl
  have hDc := hD.sub (ws' := [(q_1, .inr (2, [.int 0, .int 0, .int 0, .null])), (li, .inr (3, [.int 0, .ref ed, .int 0]))]) [1, 0] (by decide) rfl
  have hKc := hK.sub (tys' := []) [] rfl
  have hFc := va_free (wc := [(q_1, .inr (2, [.int 0, .int 0, .int 0, .null])), (li, .inr (3, [.int 0, .ref ed, .int 0]))]) hD hS hA [1, 0] rfl
  refine va_callv (va_runI (As := [.ref li]) (rest := [.ref q_1]) ⟨hx, hb, hml, hown, hts⟩ (c_Jx35411_init_45d68 l hst em kw kb D q_1 li ed _) (cwI 1 hts gJx4a65c_iterator_32c93_Jx35411_init_45d68 rfl rfl rfl (hts (.initialized RJx35411) (by decide +kernel)) (hts (.methodLink RJx4a65c 269 yJx35411_init_45d68) (by decide +kernel)) (hts (.instanceMethod yJx35411_init_45d68) (by decide +kernel)) rfl (by decide +kernel) ⟨(Nat.le_of_ble_eq_true rfl), (Nat.le_of_ble_eq_true rfl)⟩) (tw_preS hF hS hFc hPc hKc hDc) rfl rfl hl.1 rfl (lv_room (Nat.le_of_ble_eq_true rfl)) dJx4a65c_iterator_32c93_5 ⟨(Nat.le_of_ble_eq_true rfl), (Nat.le_of_ble_eq_true rfl)⟩) hS (fun q _ h => hFc q h) hFc (fun u t H locs ht hvm hw hB hz1 hk1 hS => ?_)
  subst hw
  obtain ⟨hP, hD, hK⟩ := tw_join (wr := []) hP hD hK [1, 0] [] rfl rfl (by decide) (by decide) hk1 hFc ht hvm hB
  have hP : va_P D vwCl [(q_1, .inr (2, [.int 0, .int ((-1)), .int 0, .ref li])), (li, .inr (3, [.int 0, .ref ed, .int 0]))] _ := hP
  have hD : va_D A [(q_1, .inr (2, [.int 0, .int ((-1)), .int 0, .ref li])), (li, .inr (3, [.int 0, .ref ed, .int 0]))] := hD
  have hK : va_K D vwCl [] s := hK
  refine W.widen (k := 1) (n := 4) (Nat.le_refl _) (Nat.le_refl _) ?_
  refine W.eq (g2 := F0 m 8 ls [.ref q_1]) rfl ?_
  refine W.widen (k := 1) (n := 4) (Nat.le_of_ble_eq_true rfl) (Nat.le_of_ble_eq_true rfl) ?_
  have hP9 := hP.sub (ws' := [(q_1, .inr (2, [.int 0, .int ((-1)), .int 0, .ref li])), (li, .inr (3, [.int 0, .ref ed, .int 0]))]) [0, 1] rfl
  have hD9 := hD.sub (ws' := [(q_1, .inr (2, [.int 0, .int ((-1)), .int 0, .ref li])), (li, .inr (3, [.int 0, .ref ed, .int 0]))]) [0, 1] (by decide) rfl
  have hK9 := hK.sub (tys' := []) [] rfl
  exact W.aret (v := .ref q_1) hx hb hr (Or.inl ⟨_, rfl⟩) (Or.inr ⟨_, rfl⟩) (fun t ht hW => ⟨⟨some q_1, ([(q_1, .inr (2, [.int 0, .int ((-1)), .int 0, .ref li])), (li, .inr (3, [.int 0, .ref ed, .int 0]))], []), rfl, ⟨q_1, rfl, rfl⟩, by rw [ht]; exact hP9, va_K.moved hW.alike hK9, hD9⟩, hS.F ht⟩) hS.2.2 dJx4a65c_iterator_32c93_8
set_option maxHeartbeats 4000000 in
set_option maxRecDepth 100000 in
theorem c_Jx35411_hasNext_aae02 (l : Launch) (hst : l.stackTraces = false) (em kw kb : Nat) (D : va_G) (it : Nat) (li : Nat) (ed : Nat) (sz : Nat) : Met l yJx35411_hasNext_aae02 wsJx35411_hasNext_aae02 ({ frames := 0, cells := 0, slots := 0, locals := 0 }) (va_Pc [.ref it] (tw_Pre em kw kb D sz [(it, .inr (2, [.int 0, .int ((-1)), .int 0, .ref li])), (li, .inr (3, [.int 0, .ref ed, .int 0]))] [])) (va_Qi (fun (r : Int32) (u : tw_U) => r = 0 ∧ u = ([(it, .inr (2, [.int 0, .int ((-1)), .int 0, .ref li])), (li, .inr (3, [.int 0, .ref ed, .int 0]))], [])) (tw_B D (va_A [(it, .inr (2, [.int 0, .int ((-1)), .int 0, .ref li])), (li, .inr (3, [.int 0, .ref ed, .int 0]))] sz)) (va_A [(it, .inr (2, [.int 0, .int ((-1)), .int 0, .ref li])), (li, .inr (3, [.int 0, .ref ed, .int 0]))] sz)) 0 0 (va_A [(it, .inr (2, [.int 0, .int ((-1)), .int 0, .ref li])), (li, .inr (3, [.int 0, .ref ed, .int 0]))] sz) := by
  refine Met.ofW (cc := cJx35411_hasNext_aae02) (maxL := 1) (ret := (some .boolean)) (by decide) rfl ?_
  intro p e s m args below meth c s₁ B hml hv
  obtain ⟨rfl, hsz, hP, hK, hD0, hF⟩ := hv
  have hx := B.exec
  have hb := B.bytes
  have hr := B.returns
  have hts := atoms_spec (ws := wsJx35411_hasNext_aae02) B.pre
  have hown : s.vm.findClass RJx35411 = some m.cls := findClass_of_methodNamed B.named
  have hlocks := B.notSynchronized
  have hiRJx35411 : ∀ w ∈ u_ws RJx35411 TJx35411 4, w ∈ wsJx35411_hasNext_aae02 := by decide +kernel
  have hiRJx4a65c : ∀ w ∈ u_ws RJx4a65c TJx4a65c 3, w ∈ wsJx35411_hasNext_aae02 := by decide +kernel
  subst hsz
  have hD := hD0.self (sz := s.heap.size)
  generalize hAe : va_A [(it, .inr (2, [.int 0, .int ((-1)), .int 0, .ref li])), (li, .inr (3, [.int 0, .ref ed, .int 0]))] s.heap.size = A at hD hF ⊢
  have hA : ∀ q : Nat, s.heap.size ≤ q → A q := fun q h => by rw [← hAe]; exact Or.inr h
  have hS : va_S A s.heap s.heap [] := va_S.rf
  have hP : va_P D vwCl [(it, .inr (2, [.int 0, .int ((-1)), .int 0, .ref li])), (li, .inr (3, [.int 0, .ref ed, .int 0]))] s.heap := hP
  have hl := lv_entry ([.ref it]) (n := 1) (Nat.le_of_ble_eq_true rfl)
  rw [lg_entry_eq]
  generalize (lg_sl ([.ref it]) ++ List.replicate (1 - (lg_sl ([.ref it])).length) Slot.unset).toArray = ls at hl ⊢
  have hl : lv_has ls 1 [(0, .ref it)] := hl
  refine lv_aload_n hx hb dJx35411_hasNext_aae02_0 rfl (lv_at hl 0 rfl) ?_
  refine va_get (D := D) (ci := 2) (v := .int 0) (C := RJx35411) (T := TJx35411) (N := 4) hx hb hts hiRJx35411 hown hK hP 0 rfl rfl 0 (by decide) (hts (.fieldLink RJx35411 25 "java/util/ArrayList$Itr" "cursor" "I") (by decide +kernel)) (fun _ h9 => h9) rfl dJx35411_hasNext_aae02_1 ?_
  refine lv_aload_n hx hb dJx35411_hasNext_aae02_4 rfl (lv_at hl 0 rfl) ?_
  refine va_get (D := D) (ci := 2) (v := .ref li) (C := RJx35411) (T := TJx35411) (N := 4) hx hb hts hiRJx35411 hown hK hP 0 rfl rfl 3 (by decide) (hts (.fieldLink RJx35411 1 "java/util/ArrayList$Itr" "this$0" "Ljava/util/ArrayList;") (by decide +kernel)) (fun _ h9 => h9) rfl dJx35411_hasNext_aae02_5 ?_
  refine va_getN (D := D) (ci := 3) (v := .int 0) (C := RJx4a65c) (T := TJx4a65c) (N := 3) (host := "java/util/ArrayList") hx hb hts hiRJx4a65c hown hK hP 1 rfl rfl 2 (by decide) (tw_nf hF (q := ("java/util/ArrayList$Itr", 28, "java/util/ArrayList", "size", "I", "java/util/ArrayList")) (by decide)) (fun _ h9 => h9) rfl dJx35411_hasNext_aae02_8 ?_
  refine lv_icmp_eq (tgt := 18) hx hb dJx35411_hasNext_aae02_11 (by decide) (fun c9 => ?_) (fun c9 => absurd c9 (by decide))
  refine lv_iconst (v := 0) hx hb dJx35411_hasNext_aae02_18 (by decide) ?_
  refine W.widen (k := 0) (n := 0) (Nat.le_of_ble_eq_true rfl) (Nat.le_of_ble_eq_true rfl) ?_
  have hP9 := hP.sub (ws' := [(it, .inr (2, [.int 0, .int ((-1)), .int 0, .ref li])), (li, .inr (3, [.int 0, .ref ed, .int 0]))]) [0, 1] rfl
  have hD9 := hD.sub (ws' := [(it, .inr (2, [.int 0, .int ((-1)), .int 0, .ref li])), (li, .inr (3, [.int 0, .ref ed, .int 0]))]) [0, 1] (by decide) rfl
  have hK9 := hK.sub (tys' := []) [] rfl
  exact W.zret (v := 0) (ty := .boolean) hx hb hr (by decide) (fun t ht hW => ⟨⟨0, ([(it, .inr (2, [.int 0, .int ((-1)), .int 0, .ref li])), (li, .inr (3, [.int 0, .ref ed, .int 0]))], []), rfl, ⟨rfl, rfl⟩, by rw [ht]; exact hP9, va_K.moved hW.alike hK9, hD9⟩, hS.F ht⟩) hS.2.2 dJx35411_hasNext_aae02_19
set_option maxHeartbeats 4000000 in
set_option maxRecDepth 100000 in
theorem c_X6_in0 (l : Launch) (hst : l.stackTraces = false) (em kw kb : Nat) (D : va_G) (p0 : Int32) (sz : Nat) : Met l yX6_in wsX6_in ({ frames := 0, cells := 0, slots := 0, locals := 0 }) (va_Pc [.int p0, .int 0, .int ((-1))] (tw_Pre em kw kb D sz [] [])) (va_Qi (fun (r : Int32) (u : tw_U) => r = 0 ∧ u = ([], [])) (tw_B D (va_A [] sz)) (va_A [] sz)) 0 0 (va_A [] sz) := by
  refine Met.ofW (cc := cX6_in) (maxL := 3) (ret := (some .boolean)) (by decide) rfl ?_
  intro p e s m args below meth c s₁ B hml hv
  obtain ⟨rfl, hsz, hP, hK, hD0, hF⟩ := hv
  have hx := B.exec
  have hb := B.bytes
  have hr := B.returns
  have hts := atoms_spec (ws := wsX6_in) B.pre
  have hown : s.vm.findClass RX6 = some m.cls := findClass_of_methodNamed B.named
  have hlocks := B.notSynchronized
  subst hsz
  have hD := hD0.self (sz := s.heap.size)
  generalize hAe : va_A [] s.heap.size = A at hD hF ⊢
  have hA : ∀ q : Nat, s.heap.size ≤ q → A q := fun q h => by rw [← hAe]; exact Or.inr h
  have hS : va_S A s.heap s.heap [] := va_S.rf
  have hP : va_P D vwCl [] s.heap := hP
  have hl := lv_entry ([.int p0, .int 0, .int ((-1))]) (n := 3) (Nat.le_of_ble_eq_true rfl)
  rw [lg_entry_eq]
  generalize (lg_sl ([.int p0, .int 0, .int ((-1))]) ++ List.replicate (3 - (lg_sl ([.int p0, .int 0, .int ((-1))])).length) Slot.unset).toArray = ls at hl ⊢
  have hl : lv_has ls 3 [(0, .int p0), (1, .int 0), (2, .int ((-1)))] := hl
  refine lv_iload_n hx hb dX6_in_0 rfl (lv_at hl 0 rfl) ?_
  refine lv_iload_n hx hb dX6_in_1 rfl (lv_at hl 1 rfl) ?_
  refine lv_icmp_lt (tgt := 14) hx hb dX6_in_2 (by decide) (fun c_1 => ?_) (fun c_1 => ?_)
  · refine lv_iconst (v := 0) hx hb dX6_in_14 (by decide) ?_
    refine W.widen (k := 0) (n := 0) (Nat.le_of_ble_eq_true rfl) (Nat.le_of_ble_eq_true rfl) ?_
    have hP9 := hP.sub (ws' := []) [] rfl
    have hD9 := hD.sub (ws' := []) [] (by decide) rfl
    have hK9 := hK.sub (tys' := []) [] rfl
    exact W.zret (v := 0) (ty := .boolean) hx hb hr (by decide) (fun t ht hW => ⟨⟨0, ([], []), rfl, ⟨rfl, rfl⟩, by rw [ht]; exact hP9, va_K.moved hW.alike hK9, hD9⟩, hS.F ht⟩) hS.2.2 dX6_in_15
  · refine lv_iload_n hx hb dX6_in_5 rfl (lv_at hl 0 rfl) ?_
    refine lv_iload_n hx hb dX6_in_6 rfl (lv_at hl 2 rfl) ?_
    refine lv_icmp_gt (tgt := 14) hx hb dX6_in_7 (by decide) (fun c_2 => ?_) (fun c_2 => (tw_m1 c_1 c_2).elim)
    refine lv_iconst (v := 0) hx hb dX6_in_14 (by decide) ?_
    refine W.widen (k := 0) (n := 0) (Nat.le_of_ble_eq_true rfl) (Nat.le_of_ble_eq_true rfl) ?_
    have hP9 := hP.sub (ws' := []) [] rfl
    have hD9 := hD.sub (ws' := []) [] (by decide) rfl
    have hK9 := hK.sub (tys' := []) [] rfl
    exact W.zret (v := 0) (ty := .boolean) hx hb hr (by decide) (fun t ht hW => ⟨⟨0, ([], []), rfl, ⟨rfl, rfl⟩, by rw [ht]; exact hP9, va_K.moved hW.alike hK9, hD9⟩, hS.F ht⟩) hS.2.2 dX6_in_15
set_option maxHeartbeats 4000000 in
set_option maxRecDepth 100000 in
theorem c_X6_in (l : Launch) (hst : l.stackTraces = false) (em kw kb : Nat) (D : va_G) (p0 : Int32) (p1 : Int32) (p2 : Int32) (sz : Nat) : Met l yX6_in wsX6_in ({ frames := 0, cells := 0, slots := 0, locals := 0 }) (va_Pc [.int p0, .int p1, .int p2] (tw_Pre em kw kb D sz [] [])) (va_Qi (fun (r : Int32) (u : tw_U) => (((p0 < p1) ∨ (¬ p0 < p1 ∧ p2 < p0)) ∧ r = 0 ∧ u = ([], [])) ∨ ((¬ p0 < p1 ∧ ¬ p2 < p0) ∧ r = 1 ∧ u = ([], []))) (tw_B D (va_A [] sz)) (va_A [] sz)) 0 0 (va_A [] sz) := by
  refine Met.ofW (cc := cX6_in) (maxL := 3) (ret := (some .boolean)) (by decide) rfl ?_
  intro p e s m args below meth c s₁ B hml hv
  obtain ⟨rfl, hsz, hP, hK, hD0, hF⟩ := hv
  have hx := B.exec
  have hb := B.bytes
  have hr := B.returns
  have hts := atoms_spec (ws := wsX6_in) B.pre
  have hown : s.vm.findClass RX6 = some m.cls := findClass_of_methodNamed B.named
  have hlocks := B.notSynchronized
  subst hsz
  have hD := hD0.self (sz := s.heap.size)
  generalize hAe : va_A [] s.heap.size = A at hD hF ⊢
  have hA : ∀ q : Nat, s.heap.size ≤ q → A q := fun q h => by rw [← hAe]; exact Or.inr h
  have hS : va_S A s.heap s.heap [] := va_S.rf
  have hP : va_P D vwCl [] s.heap := hP
  have hl := lv_entry ([.int p0, .int p1, .int p2]) (n := 3) (Nat.le_of_ble_eq_true rfl)
  rw [lg_entry_eq]
  generalize (lg_sl ([.int p0, .int p1, .int p2]) ++ List.replicate (3 - (lg_sl ([.int p0, .int p1, .int p2])).length) Slot.unset).toArray = ls at hl ⊢
  have hl : lv_has ls 3 [(0, .int p0), (1, .int p1), (2, .int p2)] := hl
  refine lv_iload_n hx hb dX6_in_0 rfl (lv_at hl 0 rfl) ?_
  refine lv_iload_n hx hb dX6_in_1 rfl (lv_at hl 1 rfl) ?_
  refine lv_icmp_lt (tgt := 14) hx hb dX6_in_2 (by decide) (fun c_1 => ?_) (fun c_1 => ?_)
  · refine lv_iconst (v := 0) hx hb dX6_in_14 (by decide) ?_
    refine W.widen (k := 0) (n := 0) (Nat.le_of_ble_eq_true rfl) (Nat.le_of_ble_eq_true rfl) ?_
    have hP9 := hP.sub (ws' := []) [] rfl
    have hD9 := hD.sub (ws' := []) [] (by decide) rfl
    have hK9 := hK.sub (tys' := []) [] rfl
    exact W.zret (v := 0) (ty := .boolean) hx hb hr (by decide) (fun t ht hW => ⟨⟨0, ([], []), rfl, (Or.inl ⟨(Or.inl c_1), rfl, rfl⟩), by rw [ht]; exact hP9, va_K.moved hW.alike hK9, hD9⟩, hS.F ht⟩) hS.2.2 dX6_in_15
  · refine lv_iload_n hx hb dX6_in_5 rfl (lv_at hl 0 rfl) ?_
    refine lv_iload_n hx hb dX6_in_6 rfl (lv_at hl 2 rfl) ?_
    refine lv_icmp_gt (tgt := 14) hx hb dX6_in_7 (by decide) (fun c_2 => ?_) (fun c_2 => ?_)
    · refine lv_iconst (v := 0) hx hb dX6_in_14 (by decide) ?_
      refine W.widen (k := 0) (n := 0) (Nat.le_of_ble_eq_true rfl) (Nat.le_of_ble_eq_true rfl) ?_
      have hP9 := hP.sub (ws' := []) [] rfl
      have hD9 := hD.sub (ws' := []) [] (by decide) rfl
      have hK9 := hK.sub (tys' := []) [] rfl
      exact W.zret (v := 0) (ty := .boolean) hx hb hr (by decide) (fun t ht hW => ⟨⟨0, ([], []), rfl, (Or.inl ⟨(Or.inr (⟨c_1, c_2⟩)), rfl, rfl⟩), by rw [ht]; exact hP9, va_K.moved hW.alike hK9, hD9⟩, hS.F ht⟩) hS.2.2 dX6_in_15
    · refine lv_iconst (v := 1) hx hb dX6_in_10 (by decide) ?_
      refine lv_goto (tgt := 15) hx hb dX6_in_11 (by decide) ?_
      refine W.widen (k := 0) (n := 0) (Nat.le_of_ble_eq_true rfl) (Nat.le_of_ble_eq_true rfl) ?_
      have hP9 := hP.sub (ws' := []) [] rfl
      have hD9 := hD.sub (ws' := []) [] (by decide) rfl
      have hK9 := hK.sub (tys' := []) [] rfl
      exact W.zret (v := 1) (ty := .boolean) hx hb hr (by decide) (fun t ht hW => ⟨⟨1, ([], []), rfl, (Or.inr (⟨⟨c_1, c_2⟩, rfl, rfl⟩)), by rw [ht]; exact hP9, va_K.moved hW.alike hK9, hD9⟩, hS.F ht⟩) hS.2.2 dX6_in_15
set_option maxHeartbeats 4000000 in
set_option maxRecDepth 100000 in
theorem c_X6_row (l : Launch) (hst : l.stackTraces = false) (em kw kb : Nat) (D : va_G) (p0 : Int32) (sz : Nat) : Met l yX6_row wsX6_row ({ frames := 0, cells := 0, slots := 0, locals := 0 }) (va_Pc [.int p0] (tw_Pre em kw kb D sz [] [])) (va_Qi (fun (r : Int32) (u : tw_U) => ((p0 ≤ 0) ∧ r = 0 ∧ u = ([], [])) ∨ ((¬ p0 ≤ 0) ∧ r = 1 ∧ u = ([], []))) (tw_B D (va_A [] sz)) (va_A [] sz)) 0 0 (va_A [] sz) := by
  refine Met.ofW (cc := cX6_row) (maxL := 1) (ret := (some .int)) (by decide) rfl ?_
  intro p e s m args below meth c s₁ B hml hv
  obtain ⟨rfl, hsz, hP, hK, hD0, hF⟩ := hv
  have hx := B.exec
  have hb := B.bytes
  have hr := B.returns
  have hts := atoms_spec (ws := wsX6_row) B.pre
  have hown : s.vm.findClass RX6 = some m.cls := findClass_of_methodNamed B.named
  have hlocks := B.notSynchronized
  subst hsz
  have hD := hD0.self (sz := s.heap.size)
  generalize hAe : va_A [] s.heap.size = A at hD hF ⊢
  have hA : ∀ q : Nat, s.heap.size ≤ q → A q := fun q h => by rw [← hAe]; exact Or.inr h
  have hS : va_S A s.heap s.heap [] := va_S.rf
  have hP : va_P D vwCl [] s.heap := hP
  have hl := lv_entry ([.int p0]) (n := 1) (Nat.le_of_ble_eq_true rfl)
  rw [lg_entry_eq]
  generalize (lg_sl ([.int p0]) ++ List.replicate (1 - (lg_sl ([.int p0])).length) Slot.unset).toArray = ls at hl ⊢
  have hl : lv_has ls 1 [(0, .int p0)] := hl
  refine lv_iload_n hx hb dX6_row_0 rfl (lv_at hl 0 rfl) ?_
  refine lv_if_le (tgt := 8) hx hb dX6_row_1 (by decide) (fun c_1 => ?_) (fun c_1 => ?_)
  · refine lv_iconst (v := 0) hx hb dX6_row_8 (by decide) ?_
    refine W.widen (k := 0) (n := 0) (Nat.le_of_ble_eq_true rfl) (Nat.le_of_ble_eq_true rfl) ?_
    have hP9 := hP.sub (ws' := []) [] rfl
    have hD9 := hD.sub (ws' := []) [] (by decide) rfl
    have hK9 := hK.sub (tys' := []) [] rfl
    exact W.iret (v := 0) hx hb hr (fun t ht hW => ⟨⟨0, ([], []), rfl, (Or.inl ⟨c_1, rfl, rfl⟩), by rw [ht]; exact hP9, va_K.moved hW.alike hK9, hD9⟩, hS.F ht⟩) hS.2.2 dX6_row_9
  · refine lv_iconst (v := 1) hx hb dX6_row_4 (by decide) ?_
    refine lv_goto (tgt := 9) hx hb dX6_row_5 (by decide) ?_
    refine W.widen (k := 0) (n := 0) (Nat.le_of_ble_eq_true rfl) (Nat.le_of_ble_eq_true rfl) ?_
    have hP9 := hP.sub (ws' := []) [] rfl
    have hD9 := hD.sub (ws' := []) [] (by decide) rfl
    have hK9 := hK.sub (tys' := []) [] rfl
    exact W.iret (v := 1) hx hb hr (fun t ht hW => ⟨⟨1, ([], []), rfl, (Or.inr (⟨c_1, rfl, rfl⟩)), by rw [ht]; exact hP9, va_K.moved hW.alike hK9, hD9⟩, hS.F ht⟩) hS.2.2 dX6_row_9
set_option maxHeartbeats 4000000 in
set_option maxRecDepth 100000 in
theorem c_X6_fails (l : Launch) (hst : l.stackTraces = false) (em kw kb : Nat) (D : va_G) (mm : Nat) (p0 : Int32) (f0 : Int32) (f1 : Int32) (f2 : Int32) (f3 : Int32) (c2 : Nat) (ps2 : Nat) (pr : Nat) (f4 : Int32) (f5 : Int32) (f6 : Int32) (l2 : Nat) (g0 : Int64) (sz : Nat) : Met l yX6_fails wsX6_fails ({ frames := 0, cells := 0, slots := 0, locals := 0 }) (va_Pc [.ref mm, .int p0] (tw_Pre em kw kb D sz [(mm, .inr (10, [.int f0, .int f1, .int f2, .int f3, .ref c2, .ref ps2, .ref pr, .int f4, .int f5, .int f6, .ref l2, .long g0]))] [])) (va_Qi (fun (r : Int32) (u : tw_U) => r = 0 ∧ u = ([(mm, .inr (10, [.int p0, .int f1, .int f2, .int f3, .ref c2, .ref ps2, .ref pr, .int f4, .int f5, .int f6, .ref l2, .long g0]))], [])) (tw_B D (va_A [(mm, .inr (10, [.int f0, .int f1, .int f2, .int f3, .ref c2, .ref ps2, .ref pr, .int f4, .int f5, .int f6, .ref l2, .long g0]))] sz)) (va_A [(mm, .inr (10, [.int f0, .int f1, .int f2, .int f3, .ref c2, .ref ps2, .ref pr, .int f4, .int f5, .int f6, .ref l2, .long g0]))] sz)) 0 0 (va_A [(mm, .inr (10, [.int f0, .int f1, .int f2, .int f3, .ref c2, .ref ps2, .ref pr, .int f4, .int f5, .int f6, .ref l2, .long g0]))] sz) := by
  refine Met.ofW (cc := cX6_fails) (maxL := 2) (ret := (some .int)) (by decide) rfl ?_
  intro p e s m args below meth c s₁ B hml hv
  obtain ⟨rfl, hsz, hP, hK, hD0, hF⟩ := hv
  have hx := B.exec
  have hb := B.bytes
  have hr := B.returns
  have hts := atoms_spec (ws := wsX6_fails) B.pre
  have hown : s.vm.findClass RX6 = some m.cls := findClass_of_methodNamed B.named
  have hlocks := B.notSynchronized
  have hiRX6 : ∀ w ∈ u_ws RX6 TX6 12, w ∈ wsX6_fails := by decide +kernel
  subst hsz
  have hD := hD0.self (sz := s.heap.size)
  generalize hAe : va_A [(mm, .inr (10, [.int f0, .int f1, .int f2, .int f3, .ref c2, .ref ps2, .ref pr, .int f4, .int f5, .int f6, .ref l2, .long g0]))] s.heap.size = A at hD hF ⊢
  have hA : ∀ q : Nat, s.heap.size ≤ q → A q := fun q h => by rw [← hAe]; exact Or.inr h
  have hS : va_S A s.heap s.heap [] := va_S.rf
  have hP : va_P D vwCl [(mm, .inr (10, [.int f0, .int f1, .int f2, .int f3, .ref c2, .ref ps2, .ref pr, .int f4, .int f5, .int f6, .ref l2, .long g0]))] s.heap := hP
  have hl := lv_entry ([.ref mm, .int p0]) (n := 2) (Nat.le_of_ble_eq_true rfl)
  rw [lg_entry_eq]
  generalize (lg_sl ([.ref mm, .int p0]) ++ List.replicate (2 - (lg_sl ([.ref mm, .int p0])).length) Slot.unset).toArray = ls at hl ⊢
  have hl : lv_has ls 2 [(0, .ref mm), (1, .int p0)] := hl
  refine lv_aload_n hx hb dX6_fails_0 rfl (lv_at hl 0 rfl) ?_
  refine lv_iload_n hx hb dX6_fails_1 rfl (lv_at hl 1 rfl) ?_
  refine va_put (D := D) (ci := 10) (v := .int p0) (ty := .int) (C := RX6) (T := TX6) (N := 12) hx hb hts hiRX6 tyX6 tyX6_ok nmX6 hown hK hP hD hS 0 rfl rfl 0 (by decide) (hts (.fieldLink RX6 38 "TowerliftryModel" "thrown" "I") (by decide +kernel)) (fun _ h9 => h9) rfl (by decide +kernel) rfl rfl (Nat.le_of_ble_eq_true rfl) dX6_fails_2 (fun H locs hP hD hS => ?_)
  have hP : va_P D vwCl [(mm, .inr (10, [.int p0, .int f1, .int f2, .int f3, .ref c2, .ref ps2, .ref pr, .int f4, .int f5, .int f6, .ref l2, .long g0]))] _ := hP
  have hD : va_D A [(mm, .inr (10, [.int p0, .int f1, .int f2, .int f3, .ref c2, .ref ps2, .ref pr, .int f4, .int f5, .int f6, .ref l2, .long g0]))] := hD
  refine lv_iconst (v := 0) hx hb dX6_fails_5 (by decide) ?_
  refine W.widen (k := 0) (n := 0) (Nat.le_of_ble_eq_true rfl) (Nat.le_of_ble_eq_true rfl) ?_
  have hP9 := hP.sub (ws' := [(mm, .inr (10, [.int p0, .int f1, .int f2, .int f3, .ref c2, .ref ps2, .ref pr, .int f4, .int f5, .int f6, .ref l2, .long g0]))]) [0] rfl
  have hD9 := hD.sub (ws' := [(mm, .inr (10, [.int p0, .int f1, .int f2, .int f3, .ref c2, .ref ps2, .ref pr, .int f4, .int f5, .int f6, .ref l2, .long g0]))]) [0] (by decide) rfl
  have hK9 := hK.sub (tys' := []) [] rfl
  exact W.iret (v := 0) hx hb hr (fun t ht hW => ⟨⟨0, ([(mm, .inr (10, [.int p0, .int f1, .int f2, .int f3, .ref c2, .ref ps2, .ref pr, .int f4, .int f5, .int f6, .ref l2, .long g0]))], []), rfl, ⟨rfl, rfl⟩, by rw [ht]; exact hP9, va_K.moved hW.alike hK9, hD9⟩, hS.F ht⟩) hS.2.2 dX6_fails_6
set_option maxHeartbeats 4000000 in
set_option maxRecDepth 100000 in
theorem c_X6_tells (l : Launch) (hst : l.stackTraces = false) (em kw kb : Nat) (D : va_G) (mm : Nat) (p0 : Int32) (f0 : Int32) (f1 : Int32) (f2 : Int32) (f3 : Int32) (c2 : Nat) (ps2 : Nat) (pr : Nat) (f4 : Int32) (f5 : Int32) (f6 : Int32) (l2 : Nat) (g0 : Int64) (sz : Nat) : Met l yX6_tells wsX6_tells ({ frames := 0, cells := 0, slots := 0, locals := 0 }) (va_Pc [.ref mm, .int p0] (tw_Pre em kw kb D sz [(mm, .inr (10, [.int f0, .int f1, .int f2, .int f3, .ref c2, .ref ps2, .ref pr, .int f4, .int f5, .int f6, .ref l2, .long g0]))] [])) (va_Qi (fun (r : Int32) (u : tw_U) => r = p0 ∧ u = ([(mm, .inr (10, [.int 0, .int f1, .int f2, .int f3, .ref c2, .ref ps2, .ref pr, .int f4, .int f5, .int f6, .ref l2, .long g0]))], [])) (tw_B D (va_A [(mm, .inr (10, [.int f0, .int f1, .int f2, .int f3, .ref c2, .ref ps2, .ref pr, .int f4, .int f5, .int f6, .ref l2, .long g0]))] sz)) (va_A [(mm, .inr (10, [.int f0, .int f1, .int f2, .int f3, .ref c2, .ref ps2, .ref pr, .int f4, .int f5, .int f6, .ref l2, .long g0]))] sz)) 0 0 (va_A [(mm, .inr (10, [.int f0, .int f1, .int f2, .int f3, .ref c2, .ref ps2, .ref pr, .int f4, .int f5, .int f6, .ref l2, .long g0]))] sz) := by
  refine Met.ofW (cc := cX6_tells) (maxL := 2) (ret := (some .int)) (by decide) rfl ?_
  intro p e s m args below meth c s₁ B hml hv
  obtain ⟨rfl, hsz, hP, hK, hD0, hF⟩ := hv
  have hx := B.exec
  have hb := B.bytes
  have hr := B.returns
  have hts := atoms_spec (ws := wsX6_tells) B.pre
  have hown : s.vm.findClass RX6 = some m.cls := findClass_of_methodNamed B.named
  have hlocks := B.notSynchronized
  have hiRX6 : ∀ w ∈ u_ws RX6 TX6 12, w ∈ wsX6_tells := by decide +kernel
  subst hsz
  have hD := hD0.self (sz := s.heap.size)
  generalize hAe : va_A [(mm, .inr (10, [.int f0, .int f1, .int f2, .int f3, .ref c2, .ref ps2, .ref pr, .int f4, .int f5, .int f6, .ref l2, .long g0]))] s.heap.size = A at hD hF ⊢
  have hA : ∀ q : Nat, s.heap.size ≤ q → A q := fun q h => by rw [← hAe]; exact Or.inr h
  have hS : va_S A s.heap s.heap [] := va_S.rf
  have hP : va_P D vwCl [(mm, .inr (10, [.int f0, .int f1, .int f2, .int f3, .ref c2, .ref ps2, .ref pr, .int f4, .int f5, .int f6, .ref l2, .long g0]))] s.heap := hP
  have hl := lv_entry ([.ref mm, .int p0]) (n := 2) (Nat.le_of_ble_eq_true rfl)
  rw [lg_entry_eq]
  generalize (lg_sl ([.ref mm, .int p0]) ++ List.replicate (2 - (lg_sl ([.ref mm, .int p0])).length) Slot.unset).toArray = ls at hl ⊢
  have hl : lv_has ls 2 [(0, .ref mm), (1, .int p0)] := hl
  refine lv_aload_n hx hb dX6_tells_0 rfl (lv_at hl 0 rfl) ?_
  refine lv_iconst (v := 0) hx hb dX6_tells_1 (by decide) ?_
  refine va_put (D := D) (ci := 10) (v := .int 0) (ty := .int) (C := RX6) (T := TX6) (N := 12) hx hb hts hiRX6 tyX6 tyX6_ok nmX6 hown hK hP hD hS 0 rfl rfl 0 (by decide) (hts (.fieldLink RX6 38 "TowerliftryModel" "thrown" "I") (by decide +kernel)) (fun _ h9 => h9) rfl (by decide +kernel) rfl rfl (Nat.le_of_ble_eq_true rfl) dX6_tells_2 (fun H locs hP hD hS => ?_)
  have hP : va_P D vwCl [(mm, .inr (10, [.int 0, .int f1, .int f2, .int f3, .ref c2, .ref ps2, .ref pr, .int f4, .int f5, .int f6, .ref l2, .long g0]))] _ := hP
  have hD : va_D A [(mm, .inr (10, [.int 0, .int f1, .int f2, .int f3, .ref c2, .ref ps2, .ref pr, .int f4, .int f5, .int f6, .ref l2, .long g0]))] := hD
  refine lv_iload_n hx hb dX6_tells_5 rfl (lv_at hl 1 rfl) ?_
  refine W.widen (k := 0) (n := 0) (Nat.le_of_ble_eq_true rfl) (Nat.le_of_ble_eq_true rfl) ?_
  have hP9 := hP.sub (ws' := [(mm, .inr (10, [.int 0, .int f1, .int f2, .int f3, .ref c2, .ref ps2, .ref pr, .int f4, .int f5, .int f6, .ref l2, .long g0]))]) [0] rfl
  have hD9 := hD.sub (ws' := [(mm, .inr (10, [.int 0, .int f1, .int f2, .int f3, .ref c2, .ref ps2, .ref pr, .int f4, .int f5, .int f6, .ref l2, .long g0]))]) [0] (by decide) rfl
  have hK9 := hK.sub (tys' := []) [] rfl
  exact W.iret (v := p0) hx hb hr (fun t ht hW => ⟨⟨p0, ([(mm, .inr (10, [.int 0, .int f1, .int f2, .int f3, .ref c2, .ref ps2, .ref pr, .int f4, .int f5, .int f6, .ref l2, .long g0]))], []), rfl, ⟨rfl, rfl⟩, by rw [ht]; exact hP9, va_K.moved hW.alike hK9, hD9⟩, hS.F ht⟩) hS.2.2 dX6_tells_6
set_option maxHeartbeats 4000000 in
set_option maxRecDepth 100000 in
theorem c_X6_thrown (l : Launch) (hst : l.stackTraces = false) (em kw kb : Nat) (D : va_G) (mm : Nat) (f0 : Int32) (f1 : Int32) (f2 : Int32) (f3 : Int32) (c2 : Nat) (ps2 : Nat) (pr : Nat) (f4 : Int32) (f5 : Int32) (f6 : Int32) (l2 : Nat) (g0 : Int64) (sz : Nat) : Met l yX6_thrown wsX6_thrown ({ frames := 0, cells := 0, slots := 0, locals := 0 }) (va_Pc [.ref mm] (tw_Pre em kw kb D sz [(mm, .inr (10, [.int f0, .int f1, .int f2, .int f3, .ref c2, .ref ps2, .ref pr, .int f4, .int f5, .int f6, .ref l2, .long g0]))] [])) (va_Qi (fun (r : Int32) (u : tw_U) => r = f0 ∧ u = ([(mm, .inr (10, [.int f0, .int f1, .int f2, .int f3, .ref c2, .ref ps2, .ref pr, .int f4, .int f5, .int f6, .ref l2, .long g0]))], [])) (tw_B D (va_A [(mm, .inr (10, [.int f0, .int f1, .int f2, .int f3, .ref c2, .ref ps2, .ref pr, .int f4, .int f5, .int f6, .ref l2, .long g0]))] sz)) (va_A [(mm, .inr (10, [.int f0, .int f1, .int f2, .int f3, .ref c2, .ref ps2, .ref pr, .int f4, .int f5, .int f6, .ref l2, .long g0]))] sz)) 0 0 (va_A [(mm, .inr (10, [.int f0, .int f1, .int f2, .int f3, .ref c2, .ref ps2, .ref pr, .int f4, .int f5, .int f6, .ref l2, .long g0]))] sz) := by
  refine Met.ofW (cc := cX6_thrown) (maxL := 1) (ret := (some .int)) (by decide) rfl ?_
  intro p e s m args below meth c s₁ B hml hv
  obtain ⟨rfl, hsz, hP, hK, hD0, hF⟩ := hv
  have hx := B.exec
  have hb := B.bytes
  have hr := B.returns
  have hts := atoms_spec (ws := wsX6_thrown) B.pre
  have hown : s.vm.findClass RX6 = some m.cls := findClass_of_methodNamed B.named
  have hlocks := B.notSynchronized
  have hiRX6 : ∀ w ∈ u_ws RX6 TX6 12, w ∈ wsX6_thrown := by decide +kernel
  subst hsz
  have hD := hD0.self (sz := s.heap.size)
  generalize hAe : va_A [(mm, .inr (10, [.int f0, .int f1, .int f2, .int f3, .ref c2, .ref ps2, .ref pr, .int f4, .int f5, .int f6, .ref l2, .long g0]))] s.heap.size = A at hD hF ⊢
  have hA : ∀ q : Nat, s.heap.size ≤ q → A q := fun q h => by rw [← hAe]; exact Or.inr h
  have hS : va_S A s.heap s.heap [] := va_S.rf
  have hP : va_P D vwCl [(mm, .inr (10, [.int f0, .int f1, .int f2, .int f3, .ref c2, .ref ps2, .ref pr, .int f4, .int f5, .int f6, .ref l2, .long g0]))] s.heap := hP
  have hl := lv_entry ([.ref mm]) (n := 1) (Nat.le_of_ble_eq_true rfl)
  rw [lg_entry_eq]
  generalize (lg_sl ([.ref mm]) ++ List.replicate (1 - (lg_sl ([.ref mm])).length) Slot.unset).toArray = ls at hl ⊢
  have hl : lv_has ls 1 [(0, .ref mm)] := hl
  refine lv_aload_n hx hb dX6_thrown_0 rfl (lv_at hl 0 rfl) ?_
  refine va_get (D := D) (ci := 10) (v := .int f0) (C := RX6) (T := TX6) (N := 12) hx hb hts hiRX6 hown hK hP 0 rfl rfl 0 (by decide) (hts (.fieldLink RX6 38 "TowerliftryModel" "thrown" "I") (by decide +kernel)) (fun _ h9 => h9) rfl dX6_thrown_1 ?_
  refine W.widen (k := 0) (n := 0) (Nat.le_of_ble_eq_true rfl) (Nat.le_of_ble_eq_true rfl) ?_
  have hP9 := hP.sub (ws' := [(mm, .inr (10, [.int f0, .int f1, .int f2, .int f3, .ref c2, .ref ps2, .ref pr, .int f4, .int f5, .int f6, .ref l2, .long g0]))]) [0] rfl
  have hD9 := hD.sub (ws' := [(mm, .inr (10, [.int f0, .int f1, .int f2, .int f3, .ref c2, .ref ps2, .ref pr, .int f4, .int f5, .int f6, .ref l2, .long g0]))]) [0] (by decide) rfl
  have hK9 := hK.sub (tys' := []) [] rfl
  exact W.iret (v := f0) hx hb hr (fun t ht hW => ⟨⟨f0, ([(mm, .inr (10, [.int f0, .int f1, .int f2, .int f3, .ref c2, .ref ps2, .ref pr, .int f4, .int f5, .int f6, .ref l2, .long g0]))], []), rfl, ⟨rfl, rfl⟩, by rw [ht]; exact hP9, va_K.moved hW.alike hK9, hD9⟩, hS.F ht⟩) hS.2.2 dX6_thrown_4
set_option maxHeartbeats 4000000 in
set_option maxRecDepth 100000 in
theorem c_X6_isFloor (l : Launch) (hst : l.stackTraces = false) (em kw kb : Nat) (D : va_G) (mm : Nat) (p0 : Int32) (c2 : Nat) (ps2 : Nat) (pr : Nat) (l2 : Nat) (sz : Nat) : Met l yX6_isFloor wsX6_isFloor ({ frames := 1, cells := 0, slots := 0, locals := 22 }) (va_Pc [.ref mm, .int p0] (tw_Pre em kw kb D sz [(mm, .inr (10, [.int 0, .int 9, .int 0, .int 99, .ref c2, .ref ps2, .ref pr, .int 0, .int 0, .int ((-1)), .ref l2, .long 0]))] [])) (va_Qi (fun (r : Int32) (u : tw_U) => ((((p0 < 0) ∨ (¬ p0 < 0 ∧ 9 < p0))) ∧ r = 0 ∧ u = ([(mm, .inr (10, [.int 0, .int 9, .int 0, .int 99, .ref c2, .ref ps2, .ref pr, .int 0, .int 0, .int ((-1)), .ref l2, .long 0]))], [])) ∨ (((¬ p0 < 0 ∧ ¬ 9 < p0)) ∧ r = 1 ∧ u = ([(mm, .inr (10, [.int 0, .int 9, .int 0, .int 99, .ref c2, .ref ps2, .ref pr, .int 0, .int 0, .int ((-1)), .ref l2, .long 0]))], []))) (tw_B D (va_A [(mm, .inr (10, [.int 0, .int 9, .int 0, .int 99, .ref c2, .ref ps2, .ref pr, .int 0, .int 0, .int ((-1)), .ref l2, .long 0]))] sz)) (va_A [(mm, .inr (10, [.int 0, .int 9, .int 0, .int 99, .ref c2, .ref ps2, .ref pr, .int 0, .int 0, .int ((-1)), .ref l2, .long 0]))] sz)) 0 0 (va_A [(mm, .inr (10, [.int 0, .int 9, .int 0, .int 99, .ref c2, .ref ps2, .ref pr, .int 0, .int 0, .int ((-1)), .ref l2, .long 0]))] sz) := by
  refine Met.ofW (cc := cX6_isFloor) (maxL := 2) (ret := (some .boolean)) (by decide) rfl ?_
  intro p e s m args below meth c s₁ B hml hv
  obtain ⟨rfl, hsz, hP, hK, hD0, hF⟩ := hv
  have hx := B.exec
  have hb := B.bytes
  have hr := B.returns
  have hts := atoms_spec (ws := wsX6_isFloor) B.pre
  have hown : s.vm.findClass RX6 = some m.cls := findClass_of_methodNamed B.named
  have hlocks := B.notSynchronized
  have hiRX6 : ∀ w ∈ u_ws RX6 TX6 12, w ∈ wsX6_isFloor := by decide +kernel
  subst hsz
  have hD := hD0.self (sz := s.heap.size)
  generalize hAe : va_A [(mm, .inr (10, [.int 0, .int 9, .int 0, .int 99, .ref c2, .ref ps2, .ref pr, .int 0, .int 0, .int ((-1)), .ref l2, .long 0]))] s.heap.size = A at hD hF ⊢
  have hA : ∀ q : Nat, s.heap.size ≤ q → A q := fun q h => by rw [← hAe]; exact Or.inr h
  have hS : va_S A s.heap s.heap [] := va_S.rf
  have hP : va_P D vwCl [(mm, .inr (10, [.int 0, .int 9, .int 0, .int 99, .ref c2, .ref ps2, .ref pr, .int 0, .int 0, .int ((-1)), .ref l2, .long 0]))] s.heap := hP
  have hl := lv_entry ([.ref mm, .int p0]) (n := 2) (Nat.le_of_ble_eq_true rfl)
  rw [lg_entry_eq]
  generalize (lg_sl ([.ref mm, .int p0]) ++ List.replicate (2 - (lg_sl ([.ref mm, .int p0])).length) Slot.unset).toArray = ls at hl ⊢
  have hl : lv_has ls 2 [(0, .ref mm), (1, .int p0)] := hl
  refine lv_iload_n hx hb dX6_isFloor_0 rfl (lv_at hl 1 rfl) ?_
  refine lv_iconst (v := 0) hx hb dX6_isFloor_1 (by decide) ?_
  refine lv_aload_n hx hb dX6_isFloor_2 rfl (lv_at hl 0 rfl) ?_
  refine va_get (D := D) (ci := 10) (v := .int 9) (C := RX6) (T := TX6) (N := 12) hx hb hts hiRX6 hown hK hP 0 rfl rfl 1 (by decide) (hts (.fieldLink RX6 7 "TowerliftryModel" "top" "I") (by decide +kernel)) (fun _ h9 => h9) rfl dX6_isFloor_3 ?_
  have hPc := hP.sub (ws' := []) [] rfl
  have hDc := hD.sub (ws' := []) [] (by decide) rfl
  have hKc := hK.sub (tys' := []) [] rfl
  have hFc := va_free (wc := []) hD hS hA [] rfl
  refine va_calli (va_runS (As := [.int p0, .int 0, .int 9]) (rest := []) ⟨hx, hb, hml, hown, hts⟩ (c_X6_in l hst em kw kb D p0 0 9 _) (va_cwS 3 hts gX6_isFloor_X6_in rfl rfl rfl (by decide +kernel) ⟨(Nat.le_of_ble_eq_true rfl), (Nat.le_of_ble_eq_true rfl)⟩) (tw_preS hF hS hFc hPc hKc hDc) rfl rfl hl.1 rfl (lv_room (Nat.le_of_ble_eq_true rfl)) dX6_isFloor_6 ⟨(Nat.le_of_ble_eq_true rfl), (Nat.le_of_ble_eq_true rfl)⟩) hS (fun q _ h => hFc q h) hFc (fun r u t H locs ht hvm hw hB hz1 hk1 hS => ?_)
  rcases hw with hw | hw
  · obtain ⟨g_1, rfl, rfl⟩ := hw
    obtain ⟨hP, hD, hK⟩ := tw_join (wr := [(mm, .inr (10, [.int 0, .int 9, .int 0, .int 99, .ref c2, .ref ps2, .ref pr, .int 0, .int 0, .int ((-1)), .ref l2, .long 0]))]) hP hD hK [] [0] rfl rfl (by decide) (by decide) hk1 hFc ht hvm hB
    have hP : va_P D vwCl [(mm, .inr (10, [.int 0, .int 9, .int 0, .int 99, .ref c2, .ref ps2, .ref pr, .int 0, .int 0, .int ((-1)), .ref l2, .long 0]))] _ := hP
    have hD : va_D A [(mm, .inr (10, [.int 0, .int 9, .int 0, .int 99, .ref c2, .ref ps2, .ref pr, .int 0, .int 0, .int ((-1)), .ref l2, .long 0]))] := hD
    have hK : va_K D vwCl [] s := hK
    refine W.widen (k := 0) (n := 0) (Nat.le_refl _) (Nat.le_refl _) ?_
    refine W.eq (g2 := F0 m 9 ls [.int 0]) rfl ?_
    refine W.widen (k := 0) (n := 0) (Nat.le_of_ble_eq_true rfl) (Nat.le_of_ble_eq_true rfl) ?_
    have hP9 := hP.sub (ws' := [(mm, .inr (10, [.int 0, .int 9, .int 0, .int 99, .ref c2, .ref ps2, .ref pr, .int 0, .int 0, .int ((-1)), .ref l2, .long 0]))]) [0] rfl
    have hD9 := hD.sub (ws' := [(mm, .inr (10, [.int 0, .int 9, .int 0, .int 99, .ref c2, .ref ps2, .ref pr, .int 0, .int 0, .int ((-1)), .ref l2, .long 0]))]) [0] (by decide) rfl
    have hK9 := hK.sub (tys' := []) [] rfl
    exact W.zret (v := 0) (ty := .boolean) hx hb hr (by decide) (fun t ht hW => ⟨⟨0, ([(mm, .inr (10, [.int 0, .int 9, .int 0, .int 99, .ref c2, .ref ps2, .ref pr, .int 0, .int 0, .int ((-1)), .ref l2, .long 0]))], []), rfl, (Or.inl ⟨g_1, rfl, rfl⟩), by rw [ht]; exact hP9, va_K.moved hW.alike hK9, hD9⟩, hS.F ht⟩) hS.2.2 dX6_isFloor_9
  · obtain ⟨g_2, rfl, rfl⟩ := hw
    obtain ⟨hP, hD, hK⟩ := tw_join (wr := [(mm, .inr (10, [.int 0, .int 9, .int 0, .int 99, .ref c2, .ref ps2, .ref pr, .int 0, .int 0, .int ((-1)), .ref l2, .long 0]))]) hP hD hK [] [0] rfl rfl (by decide) (by decide) hk1 hFc ht hvm hB
    have hP : va_P D vwCl [(mm, .inr (10, [.int 0, .int 9, .int 0, .int 99, .ref c2, .ref ps2, .ref pr, .int 0, .int 0, .int ((-1)), .ref l2, .long 0]))] _ := hP
    have hD : va_D A [(mm, .inr (10, [.int 0, .int 9, .int 0, .int 99, .ref c2, .ref ps2, .ref pr, .int 0, .int 0, .int ((-1)), .ref l2, .long 0]))] := hD
    have hK : va_K D vwCl [] s := hK
    refine W.widen (k := 0) (n := 0) (Nat.le_refl _) (Nat.le_refl _) ?_
    refine W.eq (g2 := F0 m 9 ls [.int 1]) rfl ?_
    refine W.widen (k := 0) (n := 0) (Nat.le_of_ble_eq_true rfl) (Nat.le_of_ble_eq_true rfl) ?_
    have hP9 := hP.sub (ws' := [(mm, .inr (10, [.int 0, .int 9, .int 0, .int 99, .ref c2, .ref ps2, .ref pr, .int 0, .int 0, .int ((-1)), .ref l2, .long 0]))]) [0] rfl
    have hD9 := hD.sub (ws' := [(mm, .inr (10, [.int 0, .int 9, .int 0, .int 99, .ref c2, .ref ps2, .ref pr, .int 0, .int 0, .int ((-1)), .ref l2, .long 0]))]) [0] (by decide) rfl
    have hK9 := hK.sub (tys' := []) [] rfl
    exact W.zret (v := 1) (ty := .boolean) hx hb hr (by decide) (fun t ht hW => ⟨⟨1, ([(mm, .inr (10, [.int 0, .int 9, .int 0, .int 99, .ref c2, .ref ps2, .ref pr, .int 0, .int 0, .int ((-1)), .ref l2, .long 0]))], []), rfl, (Or.inr (⟨g_2, rfl, rfl⟩)), by rw [ht]; exact hP9, va_K.moved hW.alike hK9, hD9⟩, hS.F ht⟩) hS.2.2 dX6_isFloor_9
set_option maxHeartbeats 4000000 in
set_option maxRecDepth 100000 in
theorem c_X6_isCar (l : Launch) (hst : l.stackTraces = false) (em kw kb : Nat) (D : va_G) (mm : Nat) (p0 : Int32) (c2 : Nat) (ps2 : Nat) (pr : Nat) (l2 : Nat) (sz : Nat) : Met l yX6_isCar wsX6_isCar ({ frames := 1, cells := 0, slots := 0, locals := 22 }) (va_Pc [.ref mm, .int p0] (tw_Pre em kw kb D sz [(mm, .inr (10, [.int 0, .int 9, .int 0, .int 99, .ref c2, .ref ps2, .ref pr, .int 0, .int 0, .int ((-1)), .ref l2, .long 0])), (c2, .inr (3, [.int 0, .ref em, .int 0]))] [])) (va_Qi (fun (r : Int32) (u : tw_U) => r = 0 ∧ u = ([(mm, .inr (10, [.int 0, .int 9, .int 0, .int 99, .ref c2, .ref ps2, .ref pr, .int 0, .int 0, .int ((-1)), .ref l2, .long 0])), (c2, .inr (3, [.int 0, .ref em, .int 0]))], [])) (tw_B D (va_A [(mm, .inr (10, [.int 0, .int 9, .int 0, .int 99, .ref c2, .ref ps2, .ref pr, .int 0, .int 0, .int ((-1)), .ref l2, .long 0])), (c2, .inr (3, [.int 0, .ref em, .int 0]))] sz)) (va_A [(mm, .inr (10, [.int 0, .int 9, .int 0, .int 99, .ref c2, .ref ps2, .ref pr, .int 0, .int 0, .int ((-1)), .ref l2, .long 0])), (c2, .inr (3, [.int 0, .ref em, .int 0]))] sz)) 0 0 (va_A [(mm, .inr (10, [.int 0, .int 9, .int 0, .int 99, .ref c2, .ref ps2, .ref pr, .int 0, .int 0, .int ((-1)), .ref l2, .long 0])), (c2, .inr (3, [.int 0, .ref em, .int 0]))] sz) := by
  refine Met.ofW (cc := cX6_isCar) (maxL := 2) (ret := (some .boolean)) (by decide) rfl ?_
  intro p e s m args below meth c s₁ B hml hv
  obtain ⟨rfl, hsz, hP, hK, hD0, hF⟩ := hv
  have hx := B.exec
  have hb := B.bytes
  have hr := B.returns
  have hts := atoms_spec (ws := wsX6_isCar) B.pre
  have hown : s.vm.findClass RX6 = some m.cls := findClass_of_methodNamed B.named
  have hlocks := B.notSynchronized
  have hiRX6 : ∀ w ∈ u_ws RX6 TX6 12, w ∈ wsX6_isCar := by decide +kernel
  subst hsz
  have hD := hD0.self (sz := s.heap.size)
  generalize hAe : va_A [(mm, .inr (10, [.int 0, .int 9, .int 0, .int 99, .ref c2, .ref ps2, .ref pr, .int 0, .int 0, .int ((-1)), .ref l2, .long 0])), (c2, .inr (3, [.int 0, .ref em, .int 0]))] s.heap.size = A at hD hF ⊢
  have hA : ∀ q : Nat, s.heap.size ≤ q → A q := fun q h => by rw [← hAe]; exact Or.inr h
  have hS : va_S A s.heap s.heap [] := va_S.rf
  have hP : va_P D vwCl [(mm, .inr (10, [.int 0, .int 9, .int 0, .int 99, .ref c2, .ref ps2, .ref pr, .int 0, .int 0, .int ((-1)), .ref l2, .long 0])), (c2, .inr (3, [.int 0, .ref em, .int 0]))] s.heap := hP
  have hl := lv_entry ([.ref mm, .int p0]) (n := 2) (Nat.le_of_ble_eq_true rfl)
  rw [lg_entry_eq]
  generalize (lg_sl ([.ref mm, .int p0]) ++ List.replicate (2 - (lg_sl ([.ref mm, .int p0])).length) Slot.unset).toArray = ls at hl ⊢
  have hl : lv_has ls 2 [(0, .ref mm), (1, .int p0)] := hl
  refine lv_iload_n hx hb dX6_isCar_0 rfl (lv_at hl 1 rfl) ?_
  refine lv_iconst (v := 0) hx hb dX6_isCar_1 (by decide) ?_
  refine lv_aload_n hx hb dX6_isCar_2 rfl (lv_at hl 0 rfl) ?_
  refine va_get (D := D) (ci := 10) (v := .ref c2) (C := RX6) (T := TX6) (N := 12) hx hb hts hiRX6 hown hK hP 0 rfl rfl 4 (by decide) (hts (.fieldLink RX6 20 "TowerliftryModel" "cars" "Ljava/util/ArrayList;") (by decide +kernel)) (fun _ h9 => h9) rfl dX6_isCar_3 ?_
  have hPc := hP.sub (ws' := [(c2, .inr (3, [.int 0, .ref em, .int 0]))]) [1] rfl
  have hDc := hD.sub (ws' := [(c2, .inr (3, [.int 0, .ref em, .int 0]))]) [1] (by decide) rfl
  have hKc := hK.sub (tys' := []) [] rfl
  have hFc := va_free (wc := [(c2, .inr (3, [.int 0, .ref em, .int 0]))]) hD hS hA [1] rfl
  refine va_calli (va_runV (As := []) (rest := [.int 0, .int p0]) ⟨hx, hb, hml, hown, hts⟩ (c_size0 l hst em kw kb D c2 em _) (cwV 0 hts gX6_isCar_Jx4a65c_size_8abf5 rfl rfl rfl (by decide +kernel) ⟨(Nat.le_of_ble_eq_true rfl), (Nat.le_of_ble_eq_true rfl)⟩) (tw_preV hF hS hFc hPc hKc hDc (va_recv hKc hPc (ci := 3) (q0 := 0) rfl rfl)) rfl rfl hl.1 rfl (lv_room (Nat.le_of_ble_eq_true rfl)) dX6_isCar_6 ⟨(Nat.le_of_ble_eq_true rfl), (Nat.le_of_ble_eq_true rfl)⟩) hS (fun q _ h => hFc q h) hFc (fun r u t H locs ht hvm hw hB hz1 hk1 hS => ?_)
  obtain ⟨rfl, rfl⟩ := hw
  obtain ⟨hP, hD, hK⟩ := tw_join (wr := [(mm, .inr (10, [.int 0, .int 9, .int 0, .int 99, .ref c2, .ref ps2, .ref pr, .int 0, .int 0, .int ((-1)), .ref l2, .long 0]))]) hP hD hK [1] [0] rfl rfl (by decide) (by decide) hk1 hFc ht hvm hB
  have hP : va_P D vwCl [(mm, .inr (10, [.int 0, .int 9, .int 0, .int 99, .ref c2, .ref ps2, .ref pr, .int 0, .int 0, .int ((-1)), .ref l2, .long 0])), (c2, .inr (3, [.int 0, .ref em, .int 0]))] _ := hP
  have hD : va_D A [(mm, .inr (10, [.int 0, .int 9, .int 0, .int 99, .ref c2, .ref ps2, .ref pr, .int 0, .int 0, .int ((-1)), .ref l2, .long 0])), (c2, .inr (3, [.int 0, .ref em, .int 0]))] := hD
  have hK : va_K D vwCl [] s := hK
  refine W.widen (k := 0) (n := 0) (Nat.le_refl _) (Nat.le_refl _) ?_
  refine W.eq (g2 := F0 m 9 ls [.int 0, .int 0, .int p0]) rfl ?_
  refine lv_iconst (v := 1) hx hb dX6_isCar_9 (by decide) ?_
  refine lv_isub hx hb dX6_isCar_10 ?_
  refine lv_topi (fun z_1 ez_1 => ?_)
  have ez_1 : z_1 = ((-1) : Int32) := ez_1.trans (by decide)
  subst ez_1
  have hPc := hP.sub (ws' := []) [] rfl
  have hDc := hD.sub (ws' := []) [] (by decide) rfl
  have hKc := hK.sub (tys' := []) [] rfl
  have hFc := va_free (wc := []) hD hS hA [] rfl
  refine va_calli (va_runS (As := [.int p0, .int 0, .int ((-1))]) (rest := []) ⟨hx, hb, hml, hown, hts⟩ (c_X6_in0 l hst em kw kb D p0 _) (va_cwS 3 hts gX6_isCar_X6_in rfl rfl rfl (by decide +kernel) ⟨(Nat.le_of_ble_eq_true rfl), (Nat.le_of_ble_eq_true rfl)⟩) (tw_preS hF hS hFc hPc hKc hDc) rfl rfl hl.1 rfl (lv_room (Nat.le_of_ble_eq_true rfl)) dX6_isCar_11 ⟨(Nat.le_of_ble_eq_true rfl), (Nat.le_of_ble_eq_true rfl)⟩) hS (fun q _ h => hFc q h) hFc (fun r u t H locs ht hvm hw hB hz1 hk1 hS => ?_)
  obtain ⟨rfl, rfl⟩ := hw
  obtain ⟨hP, hD, hK⟩ := tw_join (wr := [(mm, .inr (10, [.int 0, .int 9, .int 0, .int 99, .ref c2, .ref ps2, .ref pr, .int 0, .int 0, .int ((-1)), .ref l2, .long 0])), (c2, .inr (3, [.int 0, .ref em, .int 0]))]) hP hD hK [] [0, 1] rfl rfl (by decide) (by decide) hk1 hFc ht hvm hB
  have hP : va_P D vwCl [(mm, .inr (10, [.int 0, .int 9, .int 0, .int 99, .ref c2, .ref ps2, .ref pr, .int 0, .int 0, .int ((-1)), .ref l2, .long 0])), (c2, .inr (3, [.int 0, .ref em, .int 0]))] _ := hP
  have hD : va_D A [(mm, .inr (10, [.int 0, .int 9, .int 0, .int 99, .ref c2, .ref ps2, .ref pr, .int 0, .int 0, .int ((-1)), .ref l2, .long 0])), (c2, .inr (3, [.int 0, .ref em, .int 0]))] := hD
  have hK : va_K D vwCl [] s := hK
  refine W.widen (k := 0) (n := 0) (Nat.le_refl _) (Nat.le_refl _) ?_
  refine W.eq (g2 := F0 m 14 ls [.int 0]) rfl ?_
  refine W.widen (k := 0) (n := 0) (Nat.le_of_ble_eq_true rfl) (Nat.le_of_ble_eq_true rfl) ?_
  have hP9 := hP.sub (ws' := [(mm, .inr (10, [.int 0, .int 9, .int 0, .int 99, .ref c2, .ref ps2, .ref pr, .int 0, .int 0, .int ((-1)), .ref l2, .long 0])), (c2, .inr (3, [.int 0, .ref em, .int 0]))]) [0, 1] rfl
  have hD9 := hD.sub (ws' := [(mm, .inr (10, [.int 0, .int 9, .int 0, .int 99, .ref c2, .ref ps2, .ref pr, .int 0, .int 0, .int ((-1)), .ref l2, .long 0])), (c2, .inr (3, [.int 0, .ref em, .int 0]))]) [0, 1] (by decide) rfl
  have hK9 := hK.sub (tys' := []) [] rfl
  exact W.zret (v := 0) (ty := .boolean) hx hb hr (by decide) (fun t ht hW => ⟨⟨0, ([(mm, .inr (10, [.int 0, .int 9, .int 0, .int 99, .ref c2, .ref ps2, .ref pr, .int 0, .int 0, .int ((-1)), .ref l2, .long 0])), (c2, .inr (3, [.int 0, .ref em, .int 0]))], []), rfl, ⟨rfl, rfl⟩, by rw [ht]; exact hP9, va_K.moved hW.alike hK9, hD9⟩, hS.F ht⟩) hS.2.2 dX6_isCar_14
set_option maxHeartbeats 4000000 in
set_option maxRecDepth 100000 in
theorem c_X6_isPerson (l : Launch) (hst : l.stackTraces = false) (em kw kb : Nat) (D : va_G) (mm : Nat) (p0 : Int32) (c2 : Nat) (ps2 : Nat) (pr : Nat) (l2 : Nat) (sz : Nat) : Met l yX6_isPerson wsX6_isPerson ({ frames := 1, cells := 0, slots := 0, locals := 22 }) (va_Pc [.ref mm, .int p0] (tw_Pre em kw kb D sz [(mm, .inr (10, [.int 0, .int 9, .int 0, .int 99, .ref c2, .ref ps2, .ref pr, .int 0, .int 0, .int ((-1)), .ref l2, .long 0])), (ps2, .inr (3, [.int 0, .ref em, .int 0]))] [])) (va_Qi (fun (r : Int32) (u : tw_U) => r = 0 ∧ u = ([(mm, .inr (10, [.int 0, .int 9, .int 0, .int 99, .ref c2, .ref ps2, .ref pr, .int 0, .int 0, .int ((-1)), .ref l2, .long 0])), (ps2, .inr (3, [.int 0, .ref em, .int 0]))], [])) (tw_B D (va_A [(mm, .inr (10, [.int 0, .int 9, .int 0, .int 99, .ref c2, .ref ps2, .ref pr, .int 0, .int 0, .int ((-1)), .ref l2, .long 0])), (ps2, .inr (3, [.int 0, .ref em, .int 0]))] sz)) (va_A [(mm, .inr (10, [.int 0, .int 9, .int 0, .int 99, .ref c2, .ref ps2, .ref pr, .int 0, .int 0, .int ((-1)), .ref l2, .long 0])), (ps2, .inr (3, [.int 0, .ref em, .int 0]))] sz)) 0 0 (va_A [(mm, .inr (10, [.int 0, .int 9, .int 0, .int 99, .ref c2, .ref ps2, .ref pr, .int 0, .int 0, .int ((-1)), .ref l2, .long 0])), (ps2, .inr (3, [.int 0, .ref em, .int 0]))] sz) := by
  refine Met.ofW (cc := cX6_isPerson) (maxL := 2) (ret := (some .boolean)) (by decide) rfl ?_
  intro p e s m args below meth c s₁ B hml hv
  obtain ⟨rfl, hsz, hP, hK, hD0, hF⟩ := hv
  have hx := B.exec
  have hb := B.bytes
  have hr := B.returns
  have hts := atoms_spec (ws := wsX6_isPerson) B.pre
  have hown : s.vm.findClass RX6 = some m.cls := findClass_of_methodNamed B.named
  have hlocks := B.notSynchronized
  have hiRX6 : ∀ w ∈ u_ws RX6 TX6 12, w ∈ wsX6_isPerson := by decide +kernel
  subst hsz
  have hD := hD0.self (sz := s.heap.size)
  generalize hAe : va_A [(mm, .inr (10, [.int 0, .int 9, .int 0, .int 99, .ref c2, .ref ps2, .ref pr, .int 0, .int 0, .int ((-1)), .ref l2, .long 0])), (ps2, .inr (3, [.int 0, .ref em, .int 0]))] s.heap.size = A at hD hF ⊢
  have hA : ∀ q : Nat, s.heap.size ≤ q → A q := fun q h => by rw [← hAe]; exact Or.inr h
  have hS : va_S A s.heap s.heap [] := va_S.rf
  have hP : va_P D vwCl [(mm, .inr (10, [.int 0, .int 9, .int 0, .int 99, .ref c2, .ref ps2, .ref pr, .int 0, .int 0, .int ((-1)), .ref l2, .long 0])), (ps2, .inr (3, [.int 0, .ref em, .int 0]))] s.heap := hP
  have hl := lv_entry ([.ref mm, .int p0]) (n := 2) (Nat.le_of_ble_eq_true rfl)
  rw [lg_entry_eq]
  generalize (lg_sl ([.ref mm, .int p0]) ++ List.replicate (2 - (lg_sl ([.ref mm, .int p0])).length) Slot.unset).toArray = ls at hl ⊢
  have hl : lv_has ls 2 [(0, .ref mm), (1, .int p0)] := hl
  refine lv_iload_n hx hb dX6_isPerson_0 rfl (lv_at hl 1 rfl) ?_
  refine lv_iconst (v := 0) hx hb dX6_isPerson_1 (by decide) ?_
  refine lv_aload_n hx hb dX6_isPerson_2 rfl (lv_at hl 0 rfl) ?_
  refine va_get (D := D) (ci := 10) (v := .ref ps2) (C := RX6) (T := TX6) (N := 12) hx hb hts hiRX6 hown hK hP 0 rfl rfl 5 (by decide) (hts (.fieldLink RX6 24 "TowerliftryModel" "persons" "Ljava/util/ArrayList;") (by decide +kernel)) (fun _ h9 => h9) rfl dX6_isPerson_3 ?_
  have hPc := hP.sub (ws' := [(ps2, .inr (3, [.int 0, .ref em, .int 0]))]) [1] rfl
  have hDc := hD.sub (ws' := [(ps2, .inr (3, [.int 0, .ref em, .int 0]))]) [1] (by decide) rfl
  have hKc := hK.sub (tys' := []) [] rfl
  have hFc := va_free (wc := [(ps2, .inr (3, [.int 0, .ref em, .int 0]))]) hD hS hA [1] rfl
  refine va_calli (va_runV (As := []) (rest := [.int 0, .int p0]) ⟨hx, hb, hml, hown, hts⟩ (c_size0 l hst em kw kb D ps2 em _) (cwV 0 hts gX6_isPerson_Jx4a65c_size_8abf5 rfl rfl rfl (by decide +kernel) ⟨(Nat.le_of_ble_eq_true rfl), (Nat.le_of_ble_eq_true rfl)⟩) (tw_preV hF hS hFc hPc hKc hDc (va_recv hKc hPc (ci := 3) (q0 := 0) rfl rfl)) rfl rfl hl.1 rfl (lv_room (Nat.le_of_ble_eq_true rfl)) dX6_isPerson_6 ⟨(Nat.le_of_ble_eq_true rfl), (Nat.le_of_ble_eq_true rfl)⟩) hS (fun q _ h => hFc q h) hFc (fun r u t H locs ht hvm hw hB hz1 hk1 hS => ?_)
  obtain ⟨rfl, rfl⟩ := hw
  obtain ⟨hP, hD, hK⟩ := tw_join (wr := [(mm, .inr (10, [.int 0, .int 9, .int 0, .int 99, .ref c2, .ref ps2, .ref pr, .int 0, .int 0, .int ((-1)), .ref l2, .long 0]))]) hP hD hK [1] [0] rfl rfl (by decide) (by decide) hk1 hFc ht hvm hB
  have hP : va_P D vwCl [(mm, .inr (10, [.int 0, .int 9, .int 0, .int 99, .ref c2, .ref ps2, .ref pr, .int 0, .int 0, .int ((-1)), .ref l2, .long 0])), (ps2, .inr (3, [.int 0, .ref em, .int 0]))] _ := hP
  have hD : va_D A [(mm, .inr (10, [.int 0, .int 9, .int 0, .int 99, .ref c2, .ref ps2, .ref pr, .int 0, .int 0, .int ((-1)), .ref l2, .long 0])), (ps2, .inr (3, [.int 0, .ref em, .int 0]))] := hD
  have hK : va_K D vwCl [] s := hK
  refine W.widen (k := 0) (n := 0) (Nat.le_refl _) (Nat.le_refl _) ?_
  refine W.eq (g2 := F0 m 9 ls [.int 0, .int 0, .int p0]) rfl ?_
  refine lv_iconst (v := 1) hx hb dX6_isPerson_9 (by decide) ?_
  refine lv_isub hx hb dX6_isPerson_10 ?_
  refine lv_topi (fun z_1 ez_1 => ?_)
  have ez_1 : z_1 = ((-1) : Int32) := ez_1.trans (by decide)
  subst ez_1
  have hPc := hP.sub (ws' := []) [] rfl
  have hDc := hD.sub (ws' := []) [] (by decide) rfl
  have hKc := hK.sub (tys' := []) [] rfl
  have hFc := va_free (wc := []) hD hS hA [] rfl
  refine va_calli (va_runS (As := [.int p0, .int 0, .int ((-1))]) (rest := []) ⟨hx, hb, hml, hown, hts⟩ (c_X6_in0 l hst em kw kb D p0 _) (va_cwS 3 hts gX6_isPerson_X6_in rfl rfl rfl (by decide +kernel) ⟨(Nat.le_of_ble_eq_true rfl), (Nat.le_of_ble_eq_true rfl)⟩) (tw_preS hF hS hFc hPc hKc hDc) rfl rfl hl.1 rfl (lv_room (Nat.le_of_ble_eq_true rfl)) dX6_isPerson_11 ⟨(Nat.le_of_ble_eq_true rfl), (Nat.le_of_ble_eq_true rfl)⟩) hS (fun q _ h => hFc q h) hFc (fun r u t H locs ht hvm hw hB hz1 hk1 hS => ?_)
  obtain ⟨rfl, rfl⟩ := hw
  obtain ⟨hP, hD, hK⟩ := tw_join (wr := [(mm, .inr (10, [.int 0, .int 9, .int 0, .int 99, .ref c2, .ref ps2, .ref pr, .int 0, .int 0, .int ((-1)), .ref l2, .long 0])), (ps2, .inr (3, [.int 0, .ref em, .int 0]))]) hP hD hK [] [0, 1] rfl rfl (by decide) (by decide) hk1 hFc ht hvm hB
  have hP : va_P D vwCl [(mm, .inr (10, [.int 0, .int 9, .int 0, .int 99, .ref c2, .ref ps2, .ref pr, .int 0, .int 0, .int ((-1)), .ref l2, .long 0])), (ps2, .inr (3, [.int 0, .ref em, .int 0]))] _ := hP
  have hD : va_D A [(mm, .inr (10, [.int 0, .int 9, .int 0, .int 99, .ref c2, .ref ps2, .ref pr, .int 0, .int 0, .int ((-1)), .ref l2, .long 0])), (ps2, .inr (3, [.int 0, .ref em, .int 0]))] := hD
  have hK : va_K D vwCl [] s := hK
  refine W.widen (k := 0) (n := 0) (Nat.le_refl _) (Nat.le_refl _) ?_
  refine W.eq (g2 := F0 m 14 ls [.int 0]) rfl ?_
  refine W.widen (k := 0) (n := 0) (Nat.le_of_ble_eq_true rfl) (Nat.le_of_ble_eq_true rfl) ?_
  have hP9 := hP.sub (ws' := [(mm, .inr (10, [.int 0, .int 9, .int 0, .int 99, .ref c2, .ref ps2, .ref pr, .int 0, .int 0, .int ((-1)), .ref l2, .long 0])), (ps2, .inr (3, [.int 0, .ref em, .int 0]))]) [0, 1] rfl
  have hD9 := hD.sub (ws' := [(mm, .inr (10, [.int 0, .int 9, .int 0, .int 99, .ref c2, .ref ps2, .ref pr, .int 0, .int 0, .int ((-1)), .ref l2, .long 0])), (ps2, .inr (3, [.int 0, .ref em, .int 0]))]) [0, 1] (by decide) rfl
  have hK9 := hK.sub (tys' := []) [] rfl
  exact W.zret (v := 0) (ty := .boolean) hx hb hr (by decide) (fun t ht hW => ⟨⟨0, ([(mm, .inr (10, [.int 0, .int 9, .int 0, .int 99, .ref c2, .ref ps2, .ref pr, .int 0, .int 0, .int ((-1)), .ref l2, .long 0])), (ps2, .inr (3, [.int 0, .ref em, .int 0]))], []), rfl, ⟨rfl, rfl⟩, by rw [ht]; exact hP9, va_K.moved hW.alike hK9, hD9⟩, hS.F ht⟩) hS.2.2 dX6_isPerson_14
set_option maxHeartbeats 4000000 in
set_option maxRecDepth 100000 in
theorem c_X6_isEntry (l : Launch) (hst : l.stackTraces = false) (em kw kb : Nat) (D : va_G) (mm : Nat) (p0 : Int32) (c2 : Nat) (ps2 : Nat) (pr : Nat) (l2 : Nat) (sz : Nat) : Met l yX6_isEntry wsX6_isEntry ({ frames := 1, cells := 0, slots := 0, locals := 22 }) (va_Pc [.ref mm, .int p0] (tw_Pre em kw kb D sz [(mm, .inr (10, [.int 0, .int 9, .int 0, .int 99, .ref c2, .ref ps2, .ref pr, .int 0, .int 0, .int ((-1)), .ref l2, .long 0])), (l2, .inr (3, [.int 0, .ref em, .int 0]))] [])) (va_Qi (fun (r : Int32) (u : tw_U) => r = 0 ∧ u = ([(mm, .inr (10, [.int 0, .int 9, .int 0, .int 99, .ref c2, .ref ps2, .ref pr, .int 0, .int 0, .int ((-1)), .ref l2, .long 0])), (l2, .inr (3, [.int 0, .ref em, .int 0]))], [])) (tw_B D (va_A [(mm, .inr (10, [.int 0, .int 9, .int 0, .int 99, .ref c2, .ref ps2, .ref pr, .int 0, .int 0, .int ((-1)), .ref l2, .long 0])), (l2, .inr (3, [.int 0, .ref em, .int 0]))] sz)) (va_A [(mm, .inr (10, [.int 0, .int 9, .int 0, .int 99, .ref c2, .ref ps2, .ref pr, .int 0, .int 0, .int ((-1)), .ref l2, .long 0])), (l2, .inr (3, [.int 0, .ref em, .int 0]))] sz)) 0 0 (va_A [(mm, .inr (10, [.int 0, .int 9, .int 0, .int 99, .ref c2, .ref ps2, .ref pr, .int 0, .int 0, .int ((-1)), .ref l2, .long 0])), (l2, .inr (3, [.int 0, .ref em, .int 0]))] sz) := by
  refine Met.ofW (cc := cX6_isEntry) (maxL := 2) (ret := (some .boolean)) (by decide) rfl ?_
  intro p e s m args below meth c s₁ B hml hv
  obtain ⟨rfl, hsz, hP, hK, hD0, hF⟩ := hv
  have hx := B.exec
  have hb := B.bytes
  have hr := B.returns
  have hts := atoms_spec (ws := wsX6_isEntry) B.pre
  have hown : s.vm.findClass RX6 = some m.cls := findClass_of_methodNamed B.named
  have hlocks := B.notSynchronized
  have hiRX6 : ∀ w ∈ u_ws RX6 TX6 12, w ∈ wsX6_isEntry := by decide +kernel
  subst hsz
  have hD := hD0.self (sz := s.heap.size)
  generalize hAe : va_A [(mm, .inr (10, [.int 0, .int 9, .int 0, .int 99, .ref c2, .ref ps2, .ref pr, .int 0, .int 0, .int ((-1)), .ref l2, .long 0])), (l2, .inr (3, [.int 0, .ref em, .int 0]))] s.heap.size = A at hD hF ⊢
  have hA : ∀ q : Nat, s.heap.size ≤ q → A q := fun q h => by rw [← hAe]; exact Or.inr h
  have hS : va_S A s.heap s.heap [] := va_S.rf
  have hP : va_P D vwCl [(mm, .inr (10, [.int 0, .int 9, .int 0, .int 99, .ref c2, .ref ps2, .ref pr, .int 0, .int 0, .int ((-1)), .ref l2, .long 0])), (l2, .inr (3, [.int 0, .ref em, .int 0]))] s.heap := hP
  have hl := lv_entry ([.ref mm, .int p0]) (n := 2) (Nat.le_of_ble_eq_true rfl)
  rw [lg_entry_eq]
  generalize (lg_sl ([.ref mm, .int p0]) ++ List.replicate (2 - (lg_sl ([.ref mm, .int p0])).length) Slot.unset).toArray = ls at hl ⊢
  have hl : lv_has ls 2 [(0, .ref mm), (1, .int p0)] := hl
  refine lv_iload_n hx hb dX6_isEntry_0 rfl (lv_at hl 1 rfl) ?_
  refine lv_iconst (v := 0) hx hb dX6_isEntry_1 (by decide) ?_
  refine lv_aload_n hx hb dX6_isEntry_2 rfl (lv_at hl 0 rfl) ?_
  refine va_get (D := D) (ci := 10) (v := .ref l2) (C := RX6) (T := TX6) (N := 12) hx hb hts hiRX6 hown hK hP 0 rfl rfl 10 (by decide) (hts (.fieldLink RX6 35 "TowerliftryModel" "log" "Ljava/util/ArrayList;") (by decide +kernel)) (fun _ h9 => h9) rfl dX6_isEntry_3 ?_
  have hPc := hP.sub (ws' := [(l2, .inr (3, [.int 0, .ref em, .int 0]))]) [1] rfl
  have hDc := hD.sub (ws' := [(l2, .inr (3, [.int 0, .ref em, .int 0]))]) [1] (by decide) rfl
  have hKc := hK.sub (tys' := []) [] rfl
  have hFc := va_free (wc := [(l2, .inr (3, [.int 0, .ref em, .int 0]))]) hD hS hA [1] rfl
  refine va_calli (va_runV (As := []) (rest := [.int 0, .int p0]) ⟨hx, hb, hml, hown, hts⟩ (c_size0 l hst em kw kb D l2 em _) (cwV 0 hts gX6_isEntry_Jx4a65c_size_8abf5 rfl rfl rfl (by decide +kernel) ⟨(Nat.le_of_ble_eq_true rfl), (Nat.le_of_ble_eq_true rfl)⟩) (tw_preV hF hS hFc hPc hKc hDc (va_recv hKc hPc (ci := 3) (q0 := 0) rfl rfl)) rfl rfl hl.1 rfl (lv_room (Nat.le_of_ble_eq_true rfl)) dX6_isEntry_6 ⟨(Nat.le_of_ble_eq_true rfl), (Nat.le_of_ble_eq_true rfl)⟩) hS (fun q _ h => hFc q h) hFc (fun r u t H locs ht hvm hw hB hz1 hk1 hS => ?_)
  obtain ⟨rfl, rfl⟩ := hw
  obtain ⟨hP, hD, hK⟩ := tw_join (wr := [(mm, .inr (10, [.int 0, .int 9, .int 0, .int 99, .ref c2, .ref ps2, .ref pr, .int 0, .int 0, .int ((-1)), .ref l2, .long 0]))]) hP hD hK [1] [0] rfl rfl (by decide) (by decide) hk1 hFc ht hvm hB
  have hP : va_P D vwCl [(mm, .inr (10, [.int 0, .int 9, .int 0, .int 99, .ref c2, .ref ps2, .ref pr, .int 0, .int 0, .int ((-1)), .ref l2, .long 0])), (l2, .inr (3, [.int 0, .ref em, .int 0]))] _ := hP
  have hD : va_D A [(mm, .inr (10, [.int 0, .int 9, .int 0, .int 99, .ref c2, .ref ps2, .ref pr, .int 0, .int 0, .int ((-1)), .ref l2, .long 0])), (l2, .inr (3, [.int 0, .ref em, .int 0]))] := hD
  have hK : va_K D vwCl [] s := hK
  refine W.widen (k := 0) (n := 0) (Nat.le_refl _) (Nat.le_refl _) ?_
  refine W.eq (g2 := F0 m 9 ls [.int 0, .int 0, .int p0]) rfl ?_
  refine lv_iconst (v := 1) hx hb dX6_isEntry_9 (by decide) ?_
  refine lv_isub hx hb dX6_isEntry_10 ?_
  refine lv_topi (fun z_1 ez_1 => ?_)
  have ez_1 : z_1 = ((-1) : Int32) := ez_1.trans (by decide)
  subst ez_1
  have hPc := hP.sub (ws' := []) [] rfl
  have hDc := hD.sub (ws' := []) [] (by decide) rfl
  have hKc := hK.sub (tys' := []) [] rfl
  have hFc := va_free (wc := []) hD hS hA [] rfl
  refine va_calli (va_runS (As := [.int p0, .int 0, .int ((-1))]) (rest := []) ⟨hx, hb, hml, hown, hts⟩ (c_X6_in0 l hst em kw kb D p0 _) (va_cwS 3 hts gX6_isEntry_X6_in rfl rfl rfl (by decide +kernel) ⟨(Nat.le_of_ble_eq_true rfl), (Nat.le_of_ble_eq_true rfl)⟩) (tw_preS hF hS hFc hPc hKc hDc) rfl rfl hl.1 rfl (lv_room (Nat.le_of_ble_eq_true rfl)) dX6_isEntry_11 ⟨(Nat.le_of_ble_eq_true rfl), (Nat.le_of_ble_eq_true rfl)⟩) hS (fun q _ h => hFc q h) hFc (fun r u t H locs ht hvm hw hB hz1 hk1 hS => ?_)
  obtain ⟨rfl, rfl⟩ := hw
  obtain ⟨hP, hD, hK⟩ := tw_join (wr := [(mm, .inr (10, [.int 0, .int 9, .int 0, .int 99, .ref c2, .ref ps2, .ref pr, .int 0, .int 0, .int ((-1)), .ref l2, .long 0])), (l2, .inr (3, [.int 0, .ref em, .int 0]))]) hP hD hK [] [0, 1] rfl rfl (by decide) (by decide) hk1 hFc ht hvm hB
  have hP : va_P D vwCl [(mm, .inr (10, [.int 0, .int 9, .int 0, .int 99, .ref c2, .ref ps2, .ref pr, .int 0, .int 0, .int ((-1)), .ref l2, .long 0])), (l2, .inr (3, [.int 0, .ref em, .int 0]))] _ := hP
  have hD : va_D A [(mm, .inr (10, [.int 0, .int 9, .int 0, .int 99, .ref c2, .ref ps2, .ref pr, .int 0, .int 0, .int ((-1)), .ref l2, .long 0])), (l2, .inr (3, [.int 0, .ref em, .int 0]))] := hD
  have hK : va_K D vwCl [] s := hK
  refine W.widen (k := 0) (n := 0) (Nat.le_refl _) (Nat.le_refl _) ?_
  refine W.eq (g2 := F0 m 14 ls [.int 0]) rfl ?_
  refine W.widen (k := 0) (n := 0) (Nat.le_of_ble_eq_true rfl) (Nat.le_of_ble_eq_true rfl) ?_
  have hP9 := hP.sub (ws' := [(mm, .inr (10, [.int 0, .int 9, .int 0, .int 99, .ref c2, .ref ps2, .ref pr, .int 0, .int 0, .int ((-1)), .ref l2, .long 0])), (l2, .inr (3, [.int 0, .ref em, .int 0]))]) [0, 1] rfl
  have hD9 := hD.sub (ws' := [(mm, .inr (10, [.int 0, .int 9, .int 0, .int 99, .ref c2, .ref ps2, .ref pr, .int 0, .int 0, .int ((-1)), .ref l2, .long 0])), (l2, .inr (3, [.int 0, .ref em, .int 0]))]) [0, 1] (by decide) rfl
  have hK9 := hK.sub (tys' := []) [] rfl
  exact W.zret (v := 0) (ty := .boolean) hx hb hr (by decide) (fun t ht hW => ⟨⟨0, ([(mm, .inr (10, [.int 0, .int 9, .int 0, .int 99, .ref c2, .ref ps2, .ref pr, .int 0, .int 0, .int ((-1)), .ref l2, .long 0])), (l2, .inr (3, [.int 0, .ref em, .int 0]))], []), rfl, ⟨rfl, rfl⟩, by rw [ht]; exact hP9, va_K.moved hW.alike hK9, hD9⟩, hS.F ht⟩) hS.2.2 dX6_isEntry_14
