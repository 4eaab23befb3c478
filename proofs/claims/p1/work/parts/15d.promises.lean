theorem dX6_promises_0 : decode cX6_promises 0 = .ok (.iconst 0, 1) := by decide +kernel
theorem dX6_promises_1 : decode cX6_promises 1 = .ok (.istore_n 1, 1) := by decide +kernel
theorem dX6_promises_2 : decode cX6_promises 2 = .ok (.iload_n 1, 1) := by decide +kernel
theorem dX6_promises_3 : decode cX6_promises 3 = .ok (.aload_n 0, 1) := by decide +kernel
theorem dX6_promises_4 : decode cX6_promises 4 = .ok (.getfield 7, 3) := by decide +kernel
theorem dX6_promises_7 : decode cX6_promises 7 = .ok (.if_icmp .gt 63, 3) := by decide +kernel
theorem dX6_promises_10 : decode cX6_promises 10 = .ok (.iconst 1, 1) := by decide +kernel
theorem dX6_promises_11 : decode cX6_promises 11 = .ok (.istore_n 2, 1) := by decide +kernel
theorem dX6_promises_12 : decode cX6_promises 12 = .ok (.iload_n 2, 1) := by decide +kernel
theorem dX6_promises_13 : decode cX6_promises 13 = .ok (.bipush (-2), 2) := by decide +kernel
theorem dX6_promises_15 : decode cX6_promises 15 = .ok (.if_icmp .le 49, 3) := by decide +kernel
theorem dX6_promises_18 : decode cX6_promises 18 = .ok (.aload_n 0, 1) := by decide +kernel
theorem dX6_promises_19 : decode cX6_promises 19 = .ok (.iload_n 1, 1) := by decide +kernel
theorem dX6_promises_20 : decode cX6_promises 20 = .ok (.iload_n 2, 1) := by decide +kernel
set_option maxRecDepth 20000 in
theorem ggX6_promises_X6_isCall : GoodIn wsX6_promises wsX6_isCall := goodIn_r _ [7, 8, 9, 10, 11, 12, 13, 14, 15, 16, 17, 18, 19, 20, 21, 22, 23, 24, 25, 26, 27, 28, 29, 30, 31, 32, 33, 34, 35, 36, 37, 38, 39, 40, 41, 42, 43, 44, 45, 46, 47, 48, 49, 150, 151, 152, 153, 154, 155, 156, 157, 158, 159, 160, 161, 162, 163, 164, 165, 166, 167, 168, 169, 170, 171, 172, 173, 174, 175, 176] (by decide +kernel) (by decide +kernel)
set_option maxRecDepth 20000 in
theorem gX6_promises_X6_isCall : GoodIn wsX6_promises (wsV RX6 143 RX6 yX6_isCall wsX6_isCall) := goodIn_app (goodIn_of _ (by decide +kernel)) ggX6_promises_X6_isCall
theorem dX6_promises_21 : decode cX6_promises 21 = .ok (.invokevirtual 143, 3) := by decide +kernel
theorem dX6_promises_24 : decode cX6_promises 24 = .ok (.ifCond .eq 34, 3) := by decide +kernel
theorem dX6_promises_58 : decode cX6_promises 58 = .ok (.iinc 2 (-2), 3) := by decide +kernel
theorem dX6_promises_61 : decode cX6_promises 61 = .ok (.goto (-49), 3) := by decide +kernel
theorem dX6_promises_64 : decode cX6_promises 64 = .ok (.iinc 1 1, 3) := by decide +kernel
theorem dX6_promises_67 : decode cX6_promises 67 = .ok (.goto (-65), 3) := by decide +kernel
theorem dX6_promises_70 : decode cX6_promises 70 = .ok (.return_, 1) := by decide +kernel
set_option maxHeartbeats 4000000 in
set_option maxRecDepth 100000 in
theorem c_X6_promises (l : Launch) (hst : l.stackTraces = false) (em kw kb : Nat) (D : va_G) (mm : Nat) (t5 : Int32) (c2 : Nat) (ps2 : Nat) (pr : Nat) (l2 : Nat) (cP : ClassId) (r0 : Nat) (cR : ClassId) (r1 : Nat) (sz : Nat) : Met l yX6_promises wsX6_promises ({ frames := 4, cells := 20, slots := 80, locals := 78 }) (va_Pc [.ref mm] (tw_Pre em kw kb D sz [(mm, .inr (10, [.int 0, .int 9, .int t5, .int 99, .ref c2, .ref ps2, .ref pr, .int 0, .int 0, .int ((-1)), .ref l2, .long 0])), (ps2, .inr (3, [.int 0, .ref em, .int 0])), (pr, .inl (cP, 2, .inr (.inr (.inr (.inr ((tw_two r0 r1))))))), (r0, .inl (cR, 24, .inr (.inr (.inr (.inr ((fun _ => none))))))), (r1, .inl (cR, 24, .inr (.inr (.inr (.inr ((fun _ => none)))))))] [(cP, .array (.object "TowerliftryModel$Car")), (cR, .object "TowerliftryModel$Car")])) (va_Qv (fun (u : tw_U) => u = ([(mm, .inr (10, [.int 0, .int 9, .int t5, .int 99, .ref c2, .ref ps2, .ref pr, .int 0, .int 0, .int ((-1)), .ref l2, .long 0])), (ps2, .inr (3, [.int 0, .ref em, .int 0])), (pr, .inl (cP, 2, .inr (.inr (.inr (.inr ((tw_two r0 r1))))))), (r0, .inl (cR, 24, .inr (.inr (.inr (.inr ((fun _ => none))))))), (r1, .inl (cR, 24, .inr (.inr (.inr (.inr ((fun _ => none)))))))], [])) (tw_B D (va_A [(mm, .inr (10, [.int 0, .int 9, .int t5, .int 99, .ref c2, .ref ps2, .ref pr, .int 0, .int 0, .int ((-1)), .ref l2, .long 0])), (ps2, .inr (3, [.int 0, .ref em, .int 0])), (pr, .inl (cP, 2, .inr (.inr (.inr (.inr ((tw_two r0 r1))))))), (r0, .inl (cR, 24, .inr (.inr (.inr (.inr ((fun _ => none))))))), (r1, .inl (cR, 24, .inr (.inr (.inr (.inr ((fun _ => none)))))))] sz)) (va_A [(mm, .inr (10, [.int 0, .int 9, .int t5, .int 99, .ref c2, .ref ps2, .ref pr, .int 0, .int 0, .int ((-1)), .ref l2, .long 0])), (ps2, .inr (3, [.int 0, .ref em, .int 0])), (pr, .inl (cP, 2, .inr (.inr (.inr (.inr ((tw_two r0 r1))))))), (r0, .inl (cR, 24, .inr (.inr (.inr (.inr ((fun _ => none))))))), (r1, .inl (cR, 24, .inr (.inr (.inr (.inr ((fun _ => none)))))))] sz)) 20 80 (va_A [(mm, .inr (10, [.int 0, .int 9, .int t5, .int 99, .ref c2, .ref ps2, .ref pr, .int 0, .int 0, .int ((-1)), .ref l2, .long 0])), (ps2, .inr (3, [.int 0, .ref em, .int 0])), (pr, .inl (cP, 2, .inr (.inr (.inr (.inr ((tw_two r0 r1))))))), (r0, .inl (cR, 24, .inr (.inr (.inr (.inr ((fun _ => none))))))), (r1, .inl (cR, 24, .inr (.inr (.inr (.inr ((fun _ => none)))))))] sz) := by
  refine Met.ofW (cc := cX6_promises) (maxL := 3) (ret := none) (by decide) rfl ?_
  intro p e s m args below meth c s₁ B hml hv
  obtain ⟨rfl, hsz, hP, hK, hD0, hF⟩ := hv
  have hx := B.exec
  have hb := B.bytes
  have hr := B.returns
  have hts := atoms_spec (ws := wsX6_promises) B.pre
  have hown : s.vm.findClass RX6 = some m.cls := findClass_of_methodNamed B.named
  have hlocks := B.notSynchronized
  have hiRX6 : ∀ w ∈ u_ws RX6 TX6 12, w ∈ wsX6_promises := by decide +kernel
  subst hsz
  have hD := hD0.self (sz := s.heap.size)
  generalize hAe : va_A [(mm, .inr (10, [.int 0, .int 9, .int t5, .int 99, .ref c2, .ref ps2, .ref pr, .int 0, .int 0, .int ((-1)), .ref l2, .long 0])), (ps2, .inr (3, [.int 0, .ref em, .int 0])), (pr, .inl (cP, 2, .inr (.inr (.inr (.inr ((tw_two r0 r1))))))), (r0, .inl (cR, 24, .inr (.inr (.inr (.inr ((fun _ => none))))))), (r1, .inl (cR, 24, .inr (.inr (.inr (.inr ((fun _ => none)))))))] s.heap.size = A at hD hF ⊢
  have hA : ∀ q : Nat, s.heap.size ≤ q → A q := fun q h => by rw [← hAe]; exact Or.inr h
  have hS : va_S A s.heap s.heap [] := va_S.rf
  have hP : va_P D vwCl [(mm, .inr (10, [.int 0, .int 9, .int t5, .int 99, .ref c2, .ref ps2, .ref pr, .int 0, .int 0, .int ((-1)), .ref l2, .long 0])), (ps2, .inr (3, [.int 0, .ref em, .int 0])), (pr, .inl (cP, 2, .inr (.inr (.inr (.inr ((tw_two r0 r1))))))), (r0, .inl (cR, 24, .inr (.inr (.inr (.inr ((fun _ => none))))))), (r1, .inl (cR, 24, .inr (.inr (.inr (.inr ((fun _ => none)))))))] s.heap := hP
  have hl := lv_entry ([.ref mm]) (n := 3) (Nat.le_of_ble_eq_true rfl)
  rw [lg_entry_eq]
  generalize (lg_sl ([.ref mm]) ++ List.replicate (3 - (lg_sl ([.ref mm])).length) Slot.unset).toArray = ls at hl ⊢
  have hl : lv_has ls 3 [(0, .ref mm)] := hl
  refine lv_iconst (v := 0) hx hb dX6_promises_0 (by decide) ?_
  refine lv_istore_n (lv' := [(1, .int 0), (0, .ref mm)]) hx hb dX6_promises_1 rfl hl (by decide) rfl (fun ls hl => ?_)
  refine lv_iload_n hx hb dX6_promises_2 rfl (lv_at hl 0 rfl) ?_
  refine lv_aload_n hx hb dX6_promises_3 rfl (lv_at hl 1 rfl) ?_
  refine va_get (D := D) (ci := 10) (v := .int 9) (C := RX6) (T := TX6) (N := 12) hx hb hts hiRX6 hown hK hP 0 rfl rfl 1 (by decide) (hts (.fieldLink RX6 7 "TowerliftryModel" "top" "I") (by decide +kernel)) (fun _ h9 => h9) rfl dX6_promises_4 ?_
  refine lv_icmp_gt (tgt := 70) hx hb dX6_promises_7 (by decide) (fun c9 => absurd c9 (by decide)) (fun c9 => ?_)
  refine lv_iconst (v := 1) hx hb dX6_promises_10 (by decide) ?_
  refine lv_istore_n (lv' := [(2, .int 1), (1, .int 0), (0, .ref mm)]) hx hb dX6_promises_11 rfl hl (by decide) rfl (fun ls hl => ?_)
  refine lv_iload_n hx hb dX6_promises_12 rfl (lv_at hl 0 rfl) ?_
  refine lv_bipush (v := (-2)) hx hb dX6_promises_13 (by decide) ?_
  refine lv_icmp_le (tgt := 64) hx hb dX6_promises_15 (by decide) (fun c9 => absurd c9 (by decide)) (fun c9 => ?_)
  refine lv_aload_n hx hb dX6_promises_18 rfl (lv_at hl 2 rfl) ?_
  refine lv_iload_n hx hb dX6_promises_19 rfl (lv_at hl 1 rfl) ?_
  refine lv_iload_n hx hb dX6_promises_20 rfl (lv_at hl 0 rfl) ?_
  have hPc := hP.sub (ws' := [(mm, .inr (10, [.int 0, .int 9, .int t5, .int 99, .ref c2, .ref ps2, .ref pr, .int 0, .int 0, .int ((-1)), .ref l2, .long 0])), (ps2, .inr (3, [.int 0, .ref em, .int 0]))]) [0, 1] rfl
  have hDc := hD.sub (ws' := [(mm, .inr (10, [.int 0, .int 9, .int t5, .int 99, .ref c2, .ref ps2, .ref pr, .int 0, .int 0, .int ((-1)), .ref l2, .long 0])), (ps2, .inr (3, [.int 0, .ref em, .int 0]))]) [0, 1] (by decide) rfl
  have hKc := hK.sub (tys' := []) [] rfl
  have hFc := va_free (wc := [(mm, .inr (10, [.int 0, .int 9, .int t5, .int 99, .ref c2, .ref ps2, .ref pr, .int 0, .int 0, .int ((-1)), .ref l2, .long 0])), (ps2, .inr (3, [.int 0, .ref em, .int 0]))]) hD hS hA [0, 1] rfl
  refine va_calli (va_runV (As := [.int 0, .int 1]) (rest := []) ⟨hx, hb, hml, hown, hts⟩ (c_X6_isCall l hst em kw kb D mm 0 1 t5 c2 ps2 pr l2 _) (cwV 2 hts gX6_promises_X6_isCall rfl rfl rfl (by decide +kernel) ⟨(Nat.le_of_ble_eq_true rfl), (Nat.le_of_ble_eq_true rfl)⟩) (tw_preV hF hS hFc hPc hKc hDc (va_recv hKc hPc (ci := 10) (q0 := 0) rfl rfl)) rfl rfl hl.1 rfl (lv_room (Nat.le_of_ble_eq_true rfl)) dX6_promises_21 ⟨(Nat.le_of_ble_eq_true rfl), (Nat.le_of_ble_eq_true rfl)⟩) hS (fun q _ h => hFc q h) hFc (fun r u t H locs ht hvm hw hB hz1 hk1 hS => ?_)
  obtain ⟨rfl, rfl⟩ := hw
  obtain ⟨hP, hD, hK⟩ := tw_join (wr := [(pr, .inl (cP, 2, .inr (.inr (.inr (.inr ((tw_two r0 r1))))))), (r0, .inl (cR, 24, .inr (.inr (.inr (.inr ((fun _ => none))))))), (r1, .inl (cR, 24, .inr (.inr (.inr (.inr ((fun _ => none)))))))]) hP hD hK [0, 1] [2, 3, 4] rfl rfl (by decide) (by decide) hk1 hFc ht hvm hB
  have hP : va_P D vwCl [(pr, .inl (cP, 2, .inr (.inr (.inr (.inr ((tw_two r0 r1))))))), (r0, .inl (cR, 24, .inr (.inr (.inr (.inr ((fun _ => none))))))), (r1, .inl (cR, 24, .inr (.inr (.inr (.inr ((fun _ => none))))))), (mm, .inr (10, [.int 0, .int 9, .int t5, .int 99, .ref c2, .ref ps2, .ref pr, .int 0, .int 0, .int ((-1)), .ref l2, .long 0])), (ps2, .inr (3, [.int 0, .ref em, .int 0]))] _ := hP
  have hD : va_D A [(pr, .inl (cP, 2, .inr (.inr (.inr (.inr ((tw_two r0 r1))))))), (r0, .inl (cR, 24, .inr (.inr (.inr (.inr ((fun _ => none))))))), (r1, .inl (cR, 24, .inr (.inr (.inr (.inr ((fun _ => none))))))), (mm, .inr (10, [.int 0, .int 9, .int t5, .int 99, .ref c2, .ref ps2, .ref pr, .int 0, .int 0, .int ((-1)), .ref l2, .long 0])), (ps2, .inr (3, [.int 0, .ref em, .int 0]))] := hD
  have hK : va_K D vwCl [(cP, .array (.object "TowerliftryModel$Car")), (cR, .object "TowerliftryModel$Car")] s := hK
  refine W.widen (k := 1) (n := 4) (Nat.le_refl _) (Nat.le_refl _) ?_
  refine W.eq (g2 := F0 m 24 ls [.int 0]) rfl ?_
  refine lv_if_eq (tgt := 58) hx hb dX6_promises_24 (by decide) (fun c9 => ?_) (fun c9 => absurd c9 (by decide))
  refine lv_iinc (v := ((-1))) (lv' := [(2, .int ((-1))), (1, .int 0), (0, .ref mm)]) hx hb dX6_promises_58 hl (k := 0) rfl (by decide) (by decide) rfl (fun ls hl => ?_)
  refine lv_goto (tgt := 12) hx hb dX6_promises_61 (by decide) ?_
  refine lv_iload_n hx hb dX6_promises_12 rfl (lv_at hl 0 rfl) ?_
  refine lv_bipush (v := (-2)) hx hb dX6_promises_13 (by decide) ?_
  refine lv_icmp_le (tgt := 64) hx hb dX6_promises_15 (by decide) (fun c9 => absurd c9 (by decide)) (fun c9 => ?_)
  refine lv_aload_n hx hb dX6_promises_18 rfl (lv_at hl 2 rfl) ?_
  refine lv_iload_n hx hb dX6_promises_19 rfl (lv_at hl 1 rfl) ?_
  refine lv_iload_n hx hb dX6_promises_20 rfl (lv_at hl 0 rfl) ?_
  have hPc := hP.sub (ws' := [(mm, .inr (10, [.int 0, .int 9, .int t5, .int 99, .ref c2, .ref ps2, .ref pr, .int 0, .int 0, .int ((-1)), .ref l2, .long 0])), (ps2, .inr (3, [.int 0, .ref em, .int 0]))]) [3, 4] rfl
  have hDc := hD.sub (ws' := [(mm, .inr (10, [.int 0, .int 9, .int t5, .int 99, .ref c2, .ref ps2, .ref pr, .int 0, .int 0, .int ((-1)), .ref l2, .long 0])), (ps2, .inr (3, [.int 0, .ref em, .int 0]))]) [3, 4] (by decide) rfl
  have hKc := hK.sub (tys' := []) [] rfl
  have hFc := va_free (wc := [(mm, .inr (10, [.int 0, .int 9, .int t5, .int 99, .ref c2, .ref ps2, .ref pr, .int 0, .int 0, .int ((-1)), .ref l2, .long 0])), (ps2, .inr (3, [.int 0, .ref em, .int 0]))]) hD hS hA [3, 4] rfl
  refine va_calli (va_runV (As := [.int 0, .int ((-1))]) (rest := []) ⟨hx, hb, hml, hown, hts⟩ (c_X6_isCall l hst em kw kb D mm 0 ((-1)) t5 c2 ps2 pr l2 _) (cwV 2 hts gX6_promises_X6_isCall rfl rfl rfl (by decide +kernel) ⟨(Nat.le_of_ble_eq_true rfl), (Nat.le_of_ble_eq_true rfl)⟩) (tw_preV hF hS hFc hPc hKc hDc (va_recv hKc hPc (ci := 10) (q0 := 0) rfl rfl)) rfl rfl hl.1 rfl (lv_room (Nat.le_of_ble_eq_true rfl)) dX6_promises_21 ⟨(Nat.le_of_ble_eq_true rfl), (Nat.le_of_ble_eq_true rfl)⟩) hS (fun q _ h => hFc q h) hFc (fun r u t H locs ht hvm hw hB hz1 hk1 hS => ?_)
  obtain ⟨rfl, rfl⟩ := hw
  obtain ⟨hP, hD, hK⟩ := tw_join (wr := [(pr, .inl (cP, 2, .inr (.inr (.inr (.inr ((tw_two r0 r1))))))), (r0, .inl (cR, 24, .inr (.inr (.inr (.inr ((fun _ => none))))))), (r1, .inl (cR, 24, .inr (.inr (.inr (.inr ((fun _ => none)))))))]) hP hD hK [3, 4] [0, 1, 2] rfl rfl (by decide) (by decide) hk1 hFc ht hvm hB
  have hP : va_P D vwCl [(pr, .inl (cP, 2, .inr (.inr (.inr (.inr ((tw_two r0 r1))))))), (r0, .inl (cR, 24, .inr (.inr (.inr (.inr ((fun _ => none))))))), (r1, .inl (cR, 24, .inr (.inr (.inr (.inr ((fun _ => none))))))), (mm, .inr (10, [.int 0, .int 9, .int t5, .int 99, .ref c2, .ref ps2, .ref pr, .int 0, .int 0, .int ((-1)), .ref l2, .long 0])), (ps2, .inr (3, [.int 0, .ref em, .int 0]))] _ := hP
  have hD : va_D A [(pr, .inl (cP, 2, .inr (.inr (.inr (.inr ((tw_two r0 r1))))))), (r0, .inl (cR, 24, .inr (.inr (.inr (.inr ((fun _ => none))))))), (r1, .inl (cR, 24, .inr (.inr (.inr (.inr ((fun _ => none))))))), (mm, .inr (10, [.int 0, .int 9, .int t5, .int 99, .ref c2, .ref ps2, .ref pr, .int 0, .int 0, .int ((-1)), .ref l2, .long 0])), (ps2, .inr (3, [.int 0, .ref em, .int 0]))] := hD
  have hK : va_K D vwCl [(cP, .array (.object "TowerliftryModel$Car")), (cR, .object "TowerliftryModel$Car")] s := hK
  refine W.widen (k := 2) (n := 8) (Nat.le_refl _) (Nat.le_refl _) ?_
  refine W.eq (g2 := F0 m 24 ls [.int 0]) rfl ?_
  refine lv_if_eq (tgt := 58) hx hb dX6_promises_24 (by decide) (fun c9 => ?_) (fun c9 => absurd c9 (by decide))
  refine lv_iinc (v := ((-3))) (lv' := [(2, .int ((-3))), (1, .int 0), (0, .ref mm)]) hx hb dX6_promises_58 hl (k := 0) rfl (by decide) (by decide) rfl (fun ls hl => ?_)
  refine lv_goto (tgt := 12) hx hb dX6_promises_61 (by decide) ?_
  refine lv_iload_n hx hb dX6_promises_12 rfl (lv_at hl 0 rfl) ?_
  refine lv_bipush (v := (-2)) hx hb dX6_promises_13 (by decide) ?_
  refine lv_icmp_le (tgt := 64) hx hb dX6_promises_15 (by decide) (fun c9 => ?_) (fun c9 => absurd c9 (by decide))
  refine lv_iinc (v := 1) (lv' := [(1, .int 1), (2, .int ((-3))), (0, .ref mm)]) hx hb dX6_promises_64 hl (k := 1) rfl (by decide) (by decide) rfl (fun ls hl => ?_)
  refine lv_goto (tgt := 2) hx hb dX6_promises_67 (by decide) ?_
  refine lv_iload_n hx hb dX6_promises_2 rfl (lv_at hl 0 rfl) ?_
  refine lv_aload_n hx hb dX6_promises_3 rfl (lv_at hl 2 rfl) ?_
  refine va_get (D := D) (ci := 10) (v := .int 9) (C := RX6) (T := TX6) (N := 12) hx hb hts hiRX6 hown hK hP 3 rfl rfl 1 (by decide) (hts (.fieldLink RX6 7 "TowerliftryModel" "top" "I") (by decide +kernel)) (fun _ h9 => h9) rfl dX6_promises_4 ?_
  refine lv_icmp_gt (tgt := 70) hx hb dX6_promises_7 (by decide) (fun c9 => absurd c9 (by decide)) (fun c9 => ?_)
  refine lv_iconst (v := 1) hx hb dX6_promises_10 (by decide) ?_
  refine lv_istore_n (lv' := [(2, .int 1), (1, .int 1), (0, .ref mm)]) hx hb dX6_promises_11 rfl hl (by decide) rfl (fun ls hl => ?_)
  refine lv_iload_n hx hb dX6_promises_12 rfl (lv_at hl 0 rfl) ?_
  refine lv_bipush (v := (-2)) hx hb dX6_promises_13 (by decide) ?_
  refine lv_icmp_le (tgt := 64) hx hb dX6_promises_15 (by decide) (fun c9 => absurd c9 (by decide)) (fun c9 => ?_)
  refine lv_aload_n hx hb dX6_promises_18 rfl (lv_at hl 2 rfl) ?_
  refine lv_iload_n hx hb dX6_promises_19 rfl (lv_at hl 1 rfl) ?_
  refine lv_iload_n hx hb dX6_promises_20 rfl (lv_at hl 0 rfl) ?_
  have hPc := hP.sub (ws' := [(mm, .inr (10, [.int 0, .int 9, .int t5, .int 99, .ref c2, .ref ps2, .ref pr, .int 0, .int 0, .int ((-1)), .ref l2, .long 0])), (ps2, .inr (3, [.int 0, .ref em, .int 0]))]) [3, 4] rfl
  have hDc := hD.sub (ws' := [(mm, .inr (10, [.int 0, .int 9, .int t5, .int 99, .ref c2, .ref ps2, .ref pr, .int 0, .int 0, .int ((-1)), .ref l2, .long 0])), (ps2, .inr (3, [.int 0, .ref em, .int 0]))]) [3, 4] (by decide) rfl
  have hKc := hK.sub (tys' := []) [] rfl
  have hFc := va_free (wc := [(mm, .inr (10, [.int 0, .int 9, .int t5, .int 99, .ref c2, .ref ps2, .ref pr, .int 0, .int 0, .int ((-1)), .ref l2, .long 0])), (ps2, .inr (3, [.int 0, .ref em, .int 0]))]) hD hS hA [3, 4] rfl
  refine va_calli (va_runV (As := [.int 1, .int 1]) (rest := []) ⟨hx, hb, hml, hown, hts⟩ (c_X6_isCall l hst em kw kb D mm 1 1 t5 c2 ps2 pr l2 _) (cwV 2 hts gX6_promises_X6_isCall rfl rfl rfl (by decide +kernel) ⟨(Nat.le_of_ble_eq_true rfl), (Nat.le_of_ble_eq_true rfl)⟩) (tw_preV hF hS hFc hPc hKc hDc (va_recv hKc hPc (ci := 10) (q0 := 0) rfl rfl)) rfl rfl hl.1 rfl (lv_room (Nat.le_of_ble_eq_true rfl)) dX6_promises_21 ⟨(Nat.le_of_ble_eq_true rfl), (Nat.le_of_ble_eq_true rfl)⟩) hS (fun q _ h => hFc q h) hFc (fun r u t H locs ht hvm hw hB hz1 hk1 hS => ?_)
  obtain ⟨rfl, rfl⟩ := hw
  obtain ⟨hP, hD, hK⟩ := tw_join (wr := [(pr, .inl (cP, 2, .inr (.inr (.inr (.inr ((tw_two r0 r1))))))), (r0, .inl (cR, 24, .inr (.inr (.inr (.inr ((fun _ => none))))))), (r1, .inl (cR, 24, .inr (.inr (.inr (.inr ((fun _ => none)))))))]) hP hD hK [3, 4] [0, 1, 2] rfl rfl (by decide) (by decide) hk1 hFc ht hvm hB
  have hP : va_P D vwCl [(pr, .inl (cP, 2, .inr (.inr (.inr (.inr ((tw_two r0 r1))))))), (r0, .inl (cR, 24, .inr (.inr (.inr (.inr ((fun _ => none))))))), (r1, .inl (cR, 24, .inr (.inr (.inr (.inr ((fun _ => none))))))), (mm, .inr (10, [.int 0, .int 9, .int t5, .int 99, .ref c2, .ref ps2, .ref pr, .int 0, .int 0, .int ((-1)), .ref l2, .long 0])), (ps2, .inr (3, [.int 0, .ref em, .int 0]))] _ := hP
  have hD : va_D A [(pr, .inl (cP, 2, .inr (.inr (.inr (.inr ((tw_two r0 r1))))))), (r0, .inl (cR, 24, .inr (.inr (.inr (.inr ((fun _ => none))))))), (r1, .inl (cR, 24, .inr (.inr (.inr (.inr ((fun _ => none))))))), (mm, .inr (10, [.int 0, .int 9, .int t5, .int 99, .ref c2, .ref ps2, .ref pr, .int 0, .int 0, .int ((-1)), .ref l2, .long 0])), (ps2, .inr (3, [.int 0, .ref em, .int 0]))] := hD
  have hK : va_K D vwCl [(cP, .array (.object "TowerliftryModel$Car")), (cR, .object "TowerliftryModel$Car")] s := hK
  refine W.widen (k := 3) (n := 12) (Nat.le_refl _) (Nat.le_refl _) ?_
  refine W.eq (g2 := F0 m 24 ls [.int 0]) rfl ?_
  refine lv_if_eq (tgt := 58) hx hb dX6_promises_24 (by decide) (fun c9 => ?_) (fun c9 => absurd c9 (by decide))
  refine lv_iinc (v := ((-1))) (lv' := [(2, .int ((-1))), (1, .int 1), (0, .ref mm)]) hx hb dX6_promises_58 hl (k := 0) rfl (by decide) (by decide) rfl (fun ls hl => ?_)
  refine lv_goto (tgt := 12) hx hb dX6_promises_61 (by decide) ?_
  refine lv_iload_n hx hb dX6_promises_12 rfl (lv_at hl 0 rfl) ?_
  refine lv_bipush (v := (-2)) hx hb dX6_promises_13 (by decide) ?_
  refine lv_icmp_le (tgt := 64) hx hb dX6_promises_15 (by decide) (fun c9 => absurd c9 (by decide)) (fun c9 => ?_)
  refine lv_aload_n hx hb dX6_promises_18 rfl (lv_at hl 2 rfl) ?_
  refine lv_iload_n hx hb dX6_promises_19 rfl (lv_at hl 1 rfl) ?_
  refine lv_iload_n hx hb dX6_promises_20 rfl (lv_at hl 0 rfl) ?_
  have hPc := hP.sub (ws' := [(mm, .inr (10, [.int 0, .int 9, .int t5, .int 99, .ref c2, .ref ps2, .ref pr, .int 0, .int 0, .int ((-1)), .ref l2, .long 0])), (ps2, .inr (3, [.int 0, .ref em, .int 0]))]) [3, 4] rfl
  have hDc := hD.sub (ws' := [(mm, .inr (10, [.int 0, .int 9, .int t5, .int 99, .ref c2, .ref ps2, .ref pr, .int 0, .int 0, .int ((-1)), .ref l2, .long 0])), (ps2, .inr (3, [.int 0, .ref em, .int 0]))]) [3, 4] (by decide) rfl
  have hKc := hK.sub (tys' := []) [] rfl
  have hFc := va_free (wc := [(mm, .inr (10, [.int 0, .int 9, .int t5, .int 99, .ref c2, .ref ps2, .ref pr, .int 0, .int 0, .int ((-1)), .ref l2, .long 0])), (ps2, .inr (3, [.int 0, .ref em, .int 0]))]) hD hS hA [3, 4] rfl
  refine va_calli (va_runV (As := [.int 1, .int ((-1))]) (rest := []) ⟨hx, hb, hml, hown, hts⟩ (c_X6_isCall l hst em kw kb D mm 1 ((-1)) t5 c2 ps2 pr l2 _) (cwV 2 hts gX6_promises_X6_isCall rfl rfl rfl (by decide +kernel) ⟨(Nat.le_of_ble_eq_true rfl), (Nat.le_of_ble_eq_true rfl)⟩) (tw_preV hF hS hFc hPc hKc hDc (va_recv hKc hPc (ci := 10) (q0 := 0) rfl rfl)) rfl rfl hl.1 rfl (lv_room (Nat.le_of_ble_eq_true rfl)) dX6_promises_21 ⟨(Nat.le_of_ble_eq_true rfl), (Nat.le_of_ble_eq_true rfl)⟩) hS (fun q _ h => hFc q h) hFc (fun r u t H locs ht hvm hw hB hz1 hk1 hS => ?_)
  obtain ⟨rfl, rfl⟩ := hw
  obtain ⟨hP, hD, hK⟩ := tw_join (wr := [(pr, .inl (cP, 2, .inr (.inr (.inr (.inr ((tw_two r0 r1))))))), (r0, .inl (cR, 24, .inr (.inr (.inr (.inr ((fun _ => none))))))), (r1, .inl (cR, 24, .inr (.inr (.inr (.inr ((fun _ => none)))))))]) hP hD hK [3, 4] [0, 1, 2] rfl rfl (by decide) (by decide) hk1 hFc ht hvm hB
  have hP : va_P D vwCl [(pr, .inl (cP, 2, .inr (.inr (.inr (.inr ((tw_two r0 r1))))))), (r0, .inl (cR, 24, .inr (.inr (.inr (.inr ((fun _ => none))))))), (r1, .inl (cR, 24, .inr (.inr (.inr (.inr ((fun _ => none))))))), (mm, .inr (10, [.int 0, .int 9, .int t5, .int 99, .ref c2, .ref ps2, .ref pr, .int 0, .int 0, .int ((-1)), .ref l2, .long 0])), (ps2, .inr (3, [.int 0, .ref em, .int 0]))] _ := hP
  have hD : va_D A [(pr, .inl (cP, 2, .inr (.inr (.inr (.inr ((tw_two r0 r1))))))), (r0, .inl (cR, 24, .inr (.inr (.inr (.inr ((fun _ => none))))))), (r1, .inl (cR, 24, .inr (.inr (.inr (.inr ((fun _ => none))))))), (mm, .inr (10, [.int 0, .int 9, .int t5, .int 99, .ref c2, .ref ps2, .ref pr, .int 0, .int 0, .int ((-1)), .ref l2, .long 0])), (ps2, .inr (3, [.int 0, .ref em, .int 0]))] := hD
  have hK : va_K D vwCl [(cP, .array (.object "TowerliftryModel$Car")), (cR, .object "TowerliftryModel$Car")] s := hK
  refine W.widen (k := 4) (n := 16) (Nat.le_refl _) (Nat.le_refl _) ?_
  refine W.eq (g2 := F0 m 24 ls [.int 0]) rfl ?_
  refine lv_if_eq (tgt := 58) hx hb dX6_promises_24 (by decide) (fun c9 => ?_) (fun c9 => absurd c9 (by decide))
  refine lv_iinc (v := ((-3))) (lv' := [(2, .int ((-3))), (1, .int 1), (0, .ref mm)]) hx hb dX6_promises_58 hl (k := 0) rfl (by decide) (by decide) rfl (fun ls hl => ?_)
  refine lv_goto (tgt := 12) hx hb dX6_promises_61 (by decide) ?_
  refine lv_iload_n hx hb dX6_promises_12 rfl (lv_at hl 0 rfl) ?_
  refine lv_bipush (v := (-2)) hx hb dX6_promises_13 (by decide) ?_
  refine lv_icmp_le (tgt := 64) hx hb dX6_promises_15 (by decide) (fun c9 => ?_) (fun c9 => absurd c9 (by decide))
  refine lv_iinc (v := 2) (lv' := [(1, .int 2), (2, .int ((-3))), (0, .ref mm)]) hx hb dX6_promises_64 hl (k := 1) rfl (by decide) (by decide) rfl (fun ls hl => ?_)
  refine lv_goto (tgt := 2) hx hb dX6_promises_67 (by decide) ?_
  refine lv_iload_n hx hb dX6_promises_2 rfl (lv_at hl 0 rfl) ?_
  refine lv_aload_n hx hb dX6_promises_3 rfl (lv_at hl 2 rfl) ?_
  refine va_get (D := D) (ci := 10) (v := .int 9) (C := RX6) (T := TX6) (N := 12) hx hb hts hiRX6 hown hK hP 3 rfl rfl 1 (by decide) (hts (.fieldLink RX6 7 "TowerliftryModel" "top" "I") (by decide +kernel)) (fun _ h9 => h9) rfl dX6_promises_4 ?_
  refine lv_icmp_gt (tgt := 70) hx hb dX6_promises_7 (by decide) (fun c9 => absurd c9 (by decide)) (fun c9 => ?_)
  refine lv_iconst (v := 1) hx hb dX6_promises_10 (by decide) ?_
  refine lv_istore_n (lv' := [(2, .int 1), (1, .int 2), (0, .ref mm)]) hx hb dX6_promises_11 rfl hl (by decide) rfl (fun ls hl => ?_)
  refine lv_iload_n hx hb dX6_promises_12 rfl (lv_at hl 0 rfl) ?_
  refine lv_bipush (v := (-2)) hx hb dX6_promises_13 (by decide) ?_
  refine lv_icmp_le (tgt := 64) hx hb dX6_promises_15 (by decide) (fun c9 => absurd c9 (by decide)) (fun c9 => ?_)
  refine lv_aload_n hx hb dX6_promises_18 rfl (lv_at hl 2 rfl) ?_
  refine lv_iload_n hx hb dX6_promises_19 rfl (lv_at hl 1 rfl) ?_
  refine lv_iload_n hx hb dX6_promises_20 rfl (lv_at hl 0 rfl) ?_
  have hPc := hP.sub (ws' := [(mm, .inr (10, [.int 0, .int 9, .int t5, .int 99, .ref c2, .ref ps2, .ref pr, .int 0, .int 0, .int ((-1)), .ref l2, .long 0])), (ps2, .inr (3, [.int 0, .ref em, .int 0]))]) [3, 4] rfl
  have hDc := hD.sub (ws' := [(mm, .inr (10, [.int 0, .int 9, .int t5, .int 99, .ref c2, .ref ps2, .ref pr, .int 0, .int 0, .int ((-1)), .ref l2, .long 0])), (ps2, .inr (3, [.int 0, .ref em, .int 0]))]) [3, 4] (by decide) rfl
  have hKc := hK.sub (tys' := []) [] rfl
  have hFc := va_free (wc := [(mm, .inr (10, [.int 0, .int 9, .int t5, .int 99, .ref c2, .ref ps2, .ref pr, .int 0, .int 0, .int ((-1)), .ref l2, .long 0])), (ps2, .inr (3, [.int 0, .ref em, .int 0]))]) hD hS hA [3, 4] rfl
  refine va_calli (va_runV (As := [.int 2, .int 1]) (rest := []) ⟨hx, hb, hml, hown, hts⟩ (c_X6_isCall l hst em kw kb D mm 2 1 t5 c2 ps2 pr l2 _) (cwV 2 hts gX6_promises_X6_isCall rfl rfl rfl (by decide +kernel) ⟨(Nat.le_of_ble_eq_true rfl), (Nat.le_of_ble_eq_true rfl)⟩) (tw_preV hF hS hFc hPc hKc hDc (va_recv hKc hPc (ci := 10) (q0 := 0) rfl rfl)) rfl rfl hl.1 rfl (lv_room (Nat.le_of_ble_eq_true rfl)) dX6_promises_21 ⟨(Nat.le_of_ble_eq_true rfl), (Nat.le_of_ble_eq_true rfl)⟩) hS (fun q _ h => hFc q h) hFc (fun r u t H locs ht hvm hw hB hz1 hk1 hS => ?_)
  obtain ⟨rfl, rfl⟩ := hw
  obtain ⟨hP, hD, hK⟩ := tw_join (wr := [(pr, .inl (cP, 2, .inr (.inr (.inr (.inr ((tw_two r0 r1))))))), (r0, .inl (cR, 24, .inr (.inr (.inr (.inr ((fun _ => none))))))), (r1, .inl (cR, 24, .inr (.inr (.inr (.inr ((fun _ => none)))))))]) hP hD hK [3, 4] [0, 1, 2] rfl rfl (by decide) (by decide) hk1 hFc ht hvm hB
  have hP : va_P D vwCl [(pr, .inl (cP, 2, .inr (.inr (.inr (.inr ((tw_two r0 r1))))))), (r0, .inl (cR, 24, .inr (.inr (.inr (.inr ((fun _ => none))))))), (r1, .inl (cR, 24, .inr (.inr (.inr (.inr ((fun _ => none))))))), (mm, .inr (10, [.int 0, .int 9, .int t5, .int 99, .ref c2, .ref ps2, .ref pr, .int 0, .int 0, .int ((-1)), .ref l2, .long 0])), (ps2, .inr (3, [.int 0, .ref em, .int 0]))] _ := hP
  have hD : va_D A [(pr, .inl (cP, 2, .inr (.inr (.inr (.inr ((tw_two r0 r1))))))), (r0, .inl (cR, 24, .inr (.inr (.inr (.inr ((fun _ => none))))))), (r1, .inl (cR, 24, .inr (.inr (.inr (.inr ((fun _ => none))))))), (mm, .inr (10, [.int 0, .int 9, .int t5, .int 99, .ref c2, .ref ps2, .ref pr, .int 0, .int 0, .int ((-1)), .ref l2, .long 0])), (ps2, .inr (3, [.int 0, .ref em, .int 0]))] := hD
  have hK : va_K D vwCl [(cP, .array (.object "TowerliftryModel$Car")), (cR, .object "TowerliftryModel$Car")] s := hK
  refine W.widen (k := 5) (n := 20) (Nat.le_refl _) (Nat.le_refl _) ?_
  refine W.eq (g2 := F0 m 24 ls [.int 0]) rfl ?_
  refine lv_if_eq (tgt := 58) hx hb dX6_promises_24 (by decide) (fun c9 => ?_) (fun c9 => absurd c9 (by decide))
  refine lv_iinc (v := ((-1))) (lv' := [(2, .int ((-1))), (1, .int 2), (0, .ref mm)]) hx hb dX6_promises_58 hl (k := 0) rfl (by decide) (by decide) rfl (fun ls hl => ?_)
  refine lv_goto (tgt := 12) hx hb dX6_promises_61 (by decide) ?_
  refine lv_iload_n hx hb dX6_promises_12 rfl (lv_at hl 0 rfl) ?_
  refine lv_bipush (v := (-2)) hx hb dX6_promises_13 (by decide) ?_
  refine lv_icmp_le (tgt := 64) hx hb dX6_promises_15 (by decide) (fun c9 => absurd c9 (by decide)) (fun c9 => ?_)
  refine lv_aload_n hx hb dX6_promises_18 rfl (lv_at hl 2 rfl) ?_
  refine lv_iload_n hx hb dX6_promises_19 rfl (lv_at hl 1 rfl) ?_
  refine lv_iload_n hx hb dX6_promises_20 rfl (lv_at hl 0 rfl) ?_
  have hPc := hP.sub (ws' := [(mm, .inr (10, [.int 0, .int 9, .int t5, .int 99, .ref c2, .ref ps2, .ref pr, .int 0, .int 0, .int ((-1)), .ref l2, .long 0])), (ps2, .inr (3, [.int 0, .ref em, .int 0]))]) [3, 4] rfl
  have hDc := hD.sub (ws' := [(mm, .inr (10, [.int 0, .int 9, .int t5, .int 99, .ref c2, .ref ps2, .ref pr, .int 0, .int 0, .int ((-1)), .ref l2, .long 0])), (ps2, .inr (3, [.int 0, .ref em, .int 0]))]) [3, 4] (by decide) rfl
  have hKc := hK.sub (tys' := []) [] rfl
  have hFc := va_free (wc := [(mm, .inr (10, [.int 0, .int 9, .int t5, .int 99, .ref c2, .ref ps2, .ref pr, .int 0, .int 0, .int ((-1)), .ref l2, .long 0])), (ps2, .inr (3, [.int 0, .ref em, .int 0]))]) hD hS hA [3, 4] rfl
  refine va_calli (va_runV (As := [.int 2, .int ((-1))]) (rest := []) ⟨hx, hb, hml, hown, hts⟩ (c_X6_isCall l hst em kw kb D mm 2 ((-1)) t5 c2 ps2 pr l2 _) (cwV 2 hts gX6_promises_X6_isCall rfl rfl rfl (by decide +kernel) ⟨(Nat.le_of_ble_eq_true rfl), (Nat.le_of_ble_eq_true rfl)⟩) (tw_preV hF hS hFc hPc hKc hDc (va_recv hKc hPc (ci := 10) (q0 := 0) rfl rfl)) rfl rfl hl.1 rfl (lv_room (Nat.le_of_ble_eq_true rfl)) dX6_promises_21 ⟨(Nat.le_of_ble_eq_true rfl), (Nat.le_of_ble_eq_true rfl)⟩) hS (fun q _ h => hFc q h) hFc (fun r u t H locs ht hvm hw hB hz1 hk1 hS => ?_)
  obtain ⟨rfl, rfl⟩ := hw
  obtain ⟨hP, hD, hK⟩ := tw_join (wr := [(pr, .inl (cP, 2, .inr (.inr (.inr (.inr ((tw_two r0 r1))))))), (r0, .inl (cR, 24, .inr (.inr (.inr (.inr ((fun _ => none))))))), (r1, .inl (cR, 24, .inr (.inr (.inr (.inr ((fun _ => none)))))))]) hP hD hK [3, 4] [0, 1, 2] rfl rfl (by decide) (by decide) hk1 hFc ht hvm hB
  have hP : va_P D vwCl [(pr, .inl (cP, 2, .inr (.inr (.inr (.inr ((tw_two r0 r1))))))), (r0, .inl (cR, 24, .inr (.inr (.inr (.inr ((fun _ => none))))))), (r1, .inl (cR, 24, .inr (.inr (.inr (.inr ((fun _ => none))))))), (mm, .inr (10, [.int 0, .int 9, .int t5, .int 99, .ref c2, .ref ps2, .ref pr, .int 0, .int 0, .int ((-1)), .ref l2, .long 0])), (ps2, .inr (3, [.int 0, .ref em, .int 0]))] _ := hP
  have hD : va_D A [(pr, .inl (cP, 2, .inr (.inr (.inr (.inr ((tw_two r0 r1))))))), (r0, .inl (cR, 24, .inr (.inr (.inr (.inr ((fun _ => none))))))), (r1, .inl (cR, 24, .inr (.inr (.inr (.inr ((fun _ => none))))))), (mm, .inr (10, [.int 0, .int 9, .int t5, .int 99, .ref c2, .ref ps2, .ref pr, .int 0, .int 0, .int ((-1)), .ref l2, .long 0])), (ps2, .inr (3, [.int 0, .ref em, .int 0]))] := hD
  have hK : va_K D vwCl [(cP, .array (.object "TowerliftryModel$Car")), (cR, .object "TowerliftryModel$Car")] s := hK
  refine W.widen (k := 6) (n := 24) (Nat.le_refl _) (Nat.le_refl _) ?_
  refine W.eq (g2 := F0 m 24 ls [.int 0]) rfl ?_
  refine lv_if_eq (tgt := 58) hx hb dX6_promises_24 (by decide) (fun c9 => ?_) (fun c9 => absurd c9 (by decide))
  refine lv_iinc (v := ((-3))) (lv' := [(2, .int ((-3))), (1, .int 2), (0, .ref mm)]) hx hb dX6_promises_58 hl (k := 0) rfl (by decide) (by decide) rfl (fun ls hl => ?_)
  refine lv_goto (tgt := 12) hx hb dX6_promises_61 (by decide) ?_
  refine lv_iload_n hx hb dX6_promises_12 rfl (lv_at hl 0 rfl) ?_
  refine lv_bipush (v := (-2)) hx hb dX6_promises_13 (by decide) ?_
  refine lv_icmp_le (tgt := 64) hx hb dX6_promises_15 (by decide) (fun c9 => ?_) (fun c9 => absurd c9 (by decide))
  refine lv_iinc (v := 3) (lv' := [(1, .int 3), (2, .int ((-3))), (0, .ref mm)]) hx hb dX6_promises_64 hl (k := 1) rfl (by decide) (by decide) rfl (fun ls hl => ?_)
  refine lv_goto (tgt := 2) hx hb dX6_promises_67 (by decide) ?_
  refine lv_iload_n hx hb dX6_promises_2 rfl (lv_at hl 0 rfl) ?_
  refine lv_aload_n hx hb dX6_promises_3 rfl (lv_at hl 2 rfl) ?_
  refine va_get (D := D) (ci := 10) (v := .int 9) (C := RX6) (T := TX6) (N := 12) hx hb hts hiRX6 hown hK hP 3 rfl rfl 1 (by decide) (hts (.fieldLink RX6 7 "TowerliftryModel" "top" "I") (by decide +kernel)) (fun _ h9 => h9) rfl dX6_promises_4 ?_
  refine lv_icmp_gt (tgt := 70) hx hb dX6_promises_7 (by decide) (fun c9 => absurd c9 (by decide)) (fun c9 => ?_)
  refine lv_iconst (v := 1) hx hb dX6_promises_10 (by decide) ?_
  refine lv_istore_n (lv' := [(2, .int 1), (1, .int 3), (0, .ref mm)]) hx hb dX6_promises_11 rfl hl (by decide) rfl (fun ls hl => ?_)
  refine lv_iload_n hx hb dX6_promises_12 rfl (lv_at hl 0 rfl) ?_
  refine lv_bipush (v := (-2)) hx hb dX6_promises_13 (by decide) ?_
  refine lv_icmp_le (tgt := 64) hx hb dX6_promises_15 (by decide) (fun c9 => absurd c9 (by decide)) (fun c9 => ?_)
  refine lv_aload_n hx hb dX6_promises_18 rfl (lv_at hl 2 rfl) ?_
  refine lv_iload_n hx hb dX6_promises_19 rfl (lv_at hl 1 rfl) ?_
  refine lv_iload_n hx hb dX6_promises_20 rfl (lv_at hl 0 rfl) ?_
  have hPc := hP.sub (ws' := [(mm, .inr (10, [.int 0, .int 9, .int t5, .int 99, .ref c2, .ref ps2, .ref pr, .int 0, .int 0, .int ((-1)), .ref l2, .long 0])), (ps2, .inr (3, [.int 0, .ref em, .int 0]))]) [3, 4] rfl
  have hDc := hD.sub (ws' := [(mm, .inr (10, [.int 0, .int 9, .int t5, .int 99, .ref c2, .ref ps2, .ref pr, .int 0, .int 0, .int ((-1)), .ref l2, .long 0])), (ps2, .inr (3, [.int 0, .ref em, .int 0]))]) [3, 4] (by decide) rfl
  have hKc := hK.sub (tys' := []) [] rfl
  have hFc := va_free (wc := [(mm, .inr (10, [.int 0, .int 9, .int t5, .int 99, .ref c2, .ref ps2, .ref pr, .int 0, .int 0, .int ((-1)), .ref l2, .long 0])), (ps2, .inr (3, [.int 0, .ref em, .int 0]))]) hD hS hA [3, 4] rfl
  refine va_calli (va_runV (As := [.int 3, .int 1]) (rest := []) ⟨hx, hb, hml, hown, hts⟩ (c_X6_isCall l hst em kw kb D mm 3 1 t5 c2 ps2 pr l2 _) (cwV 2 hts gX6_promises_X6_isCall rfl rfl rfl (by decide +kernel) ⟨(Nat.le_of_ble_eq_true rfl), (Nat.le_of_ble_eq_true rfl)⟩) (tw_preV hF hS hFc hPc hKc hDc (va_recv hKc hPc (ci := 10) (q0 := 0) rfl rfl)) rfl rfl hl.1 rfl (lv_room (Nat.le_of_ble_eq_true rfl)) dX6_promises_21 ⟨(Nat.le_of_ble_eq_true rfl), (Nat.le_of_ble_eq_true rfl)⟩) hS (fun q _ h => hFc q h) hFc (fun r u t H locs ht hvm hw hB hz1 hk1 hS => ?_)
  obtain ⟨rfl, rfl⟩ := hw
  obtain ⟨hP, hD, hK⟩ := tw_join (wr := [(pr, .inl (cP, 2, .inr (.inr (.inr (.inr ((tw_two r0 r1))))))), (r0, .inl (cR, 24, .inr (.inr (.inr (.inr ((fun _ => none))))))), (r1, .inl (cR, 24, .inr (.inr (.inr (.inr ((fun _ => none)))))))]) hP hD hK [3, 4] [0, 1, 2] rfl rfl (by decide) (by decide) hk1 hFc ht hvm hB
  have hP : va_P D vwCl [(pr, .inl (cP, 2, .inr (.inr (.inr (.inr ((tw_two r0 r1))))))), (r0, .inl (cR, 24, .inr (.inr (.inr (.inr ((fun _ => none))))))), (r1, .inl (cR, 24, .inr (.inr (.inr (.inr ((fun _ => none))))))), (mm, .inr (10, [.int 0, .int 9, .int t5, .int 99, .ref c2, .ref ps2, .ref pr, .int 0, .int 0, .int ((-1)), .ref l2, .long 0])), (ps2, .inr (3, [.int 0, .ref em, .int 0]))] _ := hP
  have hD : va_D A [(pr, .inl (cP, 2, .inr (.inr (.inr (.inr ((tw_two r0 r1))))))), (r0, .inl (cR, 24, .inr (.inr (.inr (.inr ((fun _ => none))))))), (r1, .inl (cR, 24, .inr (.inr (.inr (.inr ((fun _ => none))))))), (mm, .inr (10, [.int 0, .int 9, .int t5, .int 99, .ref c2, .ref ps2, .ref pr, .int 0, .int 0, .int ((-1)), .ref l2, .long 0])), (ps2, .inr (3, [.int 0, .ref em, .int 0]))] := hD
  have hK : va_K D vwCl [(cP, .array (.object "TowerliftryModel$Car")), (cR, .object "TowerliftryModel$Car")] s := hK
  refine W.widen (k := 7) (n := 28) (Nat.le_refl _) (Nat.le_refl _) ?_
  refine W.eq (g2 := F0 m 24 ls [.int 0]) rfl ?_
  refine lv_if_eq (tgt := 58) hx hb dX6_promises_24 (by decide) (fun c9 => ?_) (fun c9 => absurd c9 (by decide))
  refine lv_iinc (v := ((-1))) (lv' := [(2, .int ((-1))), (1, .int 3), (0, .ref mm)]) hx hb dX6_promises_58 hl (k := 0) rfl (by decide) (by decide) rfl (fun ls hl => ?_)
  refine lv_goto (tgt := 12) hx hb dX6_promises_61 (by decide) ?_
  refine lv_iload_n hx hb dX6_promises_12 rfl (lv_at hl 0 rfl) ?_
  refine lv_bipush (v := (-2)) hx hb dX6_promises_13 (by decide) ?_
  refine lv_icmp_le (tgt := 64) hx hb dX6_promises_15 (by decide) (fun c9 => absurd c9 (by decide)) (fun c9 => ?_)
  refine lv_aload_n hx hb dX6_promises_18 rfl (lv_at hl 2 rfl) ?_
  refine lv_iload_n hx hb dX6_promises_19 rfl (lv_at hl 1 rfl) ?_
  refine lv_iload_n hx hb dX6_promises_20 rfl (lv_at hl 0 rfl) ?_
  have hPc := hP.sub (ws' := [(mm, .inr (10, [.int 0, .int 9, .int t5, .int 99, .ref c2, .ref ps2, .ref pr, .int 0, .int 0, .int ((-1)), .ref l2, .long 0])), (ps2, .inr (3, [.int 0, .ref em, .int 0]))]) [3, 4] rfl
  have hDc := hD.sub (ws' := [(mm, .inr (10, [.int 0, .int 9, .int t5, .int 99, .ref c2, .ref ps2, .ref pr, .int 0, .int 0, .int ((-1)), .ref l2, .long 0])), (ps2, .inr (3, [.int 0, .ref em, .int 0]))]) [3, 4] (by decide) rfl
  have hKc := hK.sub (tys' := []) [] rfl
  have hFc := va_free (wc := [(mm, .inr (10, [.int 0, .int 9, .int t5, .int 99, .ref c2, .ref ps2, .ref pr, .int 0, .int 0, .int ((-1)), .ref l2, .long 0])), (ps2, .inr (3, [.int 0, .ref em, .int 0]))]) hD hS hA [3, 4] rfl
  refine va_calli (va_runV (As := [.int 3, .int ((-1))]) (rest := []) ⟨hx, hb, hml, hown, hts⟩ (c_X6_isCall l hst em kw kb D mm 3 ((-1)) t5 c2 ps2 pr l2 _) (cwV 2 hts gX6_promises_X6_isCall rfl rfl rfl (by decide +kernel) ⟨(Nat.le_of_ble_eq_true rfl), (Nat.le_of_ble_eq_true rfl)⟩) (tw_preV hF hS hFc hPc hKc hDc (va_recv hKc hPc (ci := 10) (q0 := 0) rfl rfl)) rfl rfl hl.1 rfl (lv_room (Nat.le_of_ble_eq_true rfl)) dX6_promises_21 ⟨(Nat.le_of_ble_eq_true rfl), (Nat.le_of_ble_eq_true rfl)⟩) hS (fun q _ h => hFc q h) hFc (fun r u t H locs ht hvm hw hB hz1 hk1 hS => ?_)
  obtain ⟨rfl, rfl⟩ := hw
  obtain ⟨hP, hD, hK⟩ := tw_join (wr := [(pr, .inl (cP, 2, .inr (.inr (.inr (.inr ((tw_two r0 r1))))))), (r0, .inl (cR, 24, .inr (.inr (.inr (.inr ((fun _ => none))))))), (r1, .inl (cR, 24, .inr (.inr (.inr (.inr ((fun _ => none)))))))]) hP hD hK [3, 4] [0, 1, 2] rfl rfl (by decide) (by decide) hk1 hFc ht hvm hB
  have hP : va_P D vwCl [(pr, .inl (cP, 2, .inr (.inr (.inr (.inr ((tw_two r0 r1))))))), (r0, .inl (cR, 24, .inr (.inr (.inr (.inr ((fun _ => none))))))), (r1, .inl (cR, 24, .inr (.inr (.inr (.inr ((fun _ => none))))))), (mm, .inr (10, [.int 0, .int 9, .int t5, .int 99, .ref c2, .ref ps2, .ref pr, .int 0, .int 0, .int ((-1)), .ref l2, .long 0])), (ps2, .inr (3, [.int 0, .ref em, .int 0]))] _ := hP
  have hD : va_D A [(pr, .inl (cP, 2, .inr (.inr (.inr (.inr ((tw_two r0 r1))))))), (r0, .inl (cR, 24, .inr (.inr (.inr (.inr ((fun _ => none))))))), (r1, .inl (cR, 24, .inr (.inr (.inr (.inr ((fun _ => none))))))), (mm, .inr (10, [.int 0, .int 9, .int t5, .int 99, .ref c2, .ref ps2, .ref pr, .int 0, .int 0, .int ((-1)), .ref l2, .long 0])), (ps2, .inr (3, [.int 0, .ref em, .int 0]))] := hD
  have hK : va_K D vwCl [(cP, .array (.object "TowerliftryModel$Car")), (cR, .object "TowerliftryModel$Car")] s := hK
  refine W.widen (k := 8) (n := 32) (Nat.le_refl _) (Nat.le_refl _) ?_
  refine W.eq (g2 := F0 m 24 ls [.int 0]) rfl ?_
  refine lv_if_eq (tgt := 58) hx hb dX6_promises_24 (by decide) (fun c9 => ?_) (fun c9 => absurd c9 (by decide))
  refine lv_iinc (v := ((-3))) (lv' := [(2, .int ((-3))), (1, .int 3), (0, .ref mm)]) hx hb dX6_promises_58 hl (k := 0) rfl (by decide) (by decide) rfl (fun ls hl => ?_)
  refine lv_goto (tgt := 12) hx hb dX6_promises_61 (by decide) ?_
  refine lv_iload_n hx hb dX6_promises_12 rfl (lv_at hl 0 rfl) ?_
  refine lv_bipush (v := (-2)) hx hb dX6_promises_13 (by decide) ?_
  refine lv_icmp_le (tgt := 64) hx hb dX6_promises_15 (by decide) (fun c9 => ?_) (fun c9 => absurd c9 (by decide))
  refine lv_iinc (v := 4) (lv' := [(1, .int 4), (2, .int ((-3))), (0, .ref mm)]) hx hb dX6_promises_64 hl (k := 1) rfl (by decide) (by decide) rfl (fun ls hl => ?_)
  refine lv_goto (tgt := 2) hx hb dX6_promises_67 (by decide) ?_
  refine lv_iload_n hx hb dX6_promises_2 rfl (lv_at hl 0 rfl) ?_
  refine lv_aload_n hx hb dX6_promises_3 rfl (lv_at hl 2 rfl) ?_
  refine va_get (D := D) (ci := 10) (v := .int 9) (C := RX6) (T := TX6) (N := 12) hx hb hts hiRX6 hown hK hP 3 rfl rfl 1 (by decide) (hts (.fieldLink RX6 7 "TowerliftryModel" "top" "I") (by decide +kernel)) (fun _ h9 => h9) rfl dX6_promises_4 ?_
  refine lv_icmp_gt (tgt := 70) hx hb dX6_promises_7 (by decide) (fun c9 => absurd c9 (by decide)) (fun c9 => ?_)
  refine lv_iconst (v := 1) hx hb dX6_promises_10 (by decide) ?_
  refine lv_istore_n (lv' := [(2, .int 1), (1, .int 4), (0, .ref mm)]) hx hb dX6_promises_11 rfl hl (by decide) rfl (fun ls hl => ?_)
  refine lv_iload_n hx hb dX6_promises_12 rfl (lv_at hl 0 rfl) ?_
  refine lv_bipush (v := (-2)) hx hb dX6_promises_13 (by decide) ?_
  refine lv_icmp_le (tgt := 64) hx hb dX6_promises_15 (by decide) (fun c9 => absurd c9 (by decide)) (fun c9 => ?_)
  refine lv_aload_n hx hb dX6_promises_18 rfl (lv_at hl 2 rfl) ?_
  refine lv_iload_n hx hb dX6_promises_19 rfl (lv_at hl 1 rfl) ?_
  refine lv_iload_n hx hb dX6_promises_20 rfl (lv_at hl 0 rfl) ?_
  have hPc := hP.sub (ws' := [(mm, .inr (10, [.int 0, .int 9, .int t5, .int 99, .ref c2, .ref ps2, .ref pr, .int 0, .int 0, .int ((-1)), .ref l2, .long 0])), (ps2, .inr (3, [.int 0, .ref em, .int 0]))]) [3, 4] rfl
  have hDc := hD.sub (ws' := [(mm, .inr (10, [.int 0, .int 9, .int t5, .int 99, .ref c2, .ref ps2, .ref pr, .int 0, .int 0, .int ((-1)), .ref l2, .long 0])), (ps2, .inr (3, [.int 0, .ref em, .int 0]))]) [3, 4] (by decide) rfl
  have hKc := hK.sub (tys' := []) [] rfl
  have hFc := va_free (wc := [(mm, .inr (10, [.int 0, .int 9, .int t5, .int 99, .ref c2, .ref ps2, .ref pr, .int 0, .int 0, .int ((-1)), .ref l2, .long 0])), (ps2, .inr (3, [.int 0, .ref em, .int 0]))]) hD hS hA [3, 4] rfl
  refine va_calli (va_runV (As := [.int 4, .int 1]) (rest := []) ⟨hx, hb, hml, hown, hts⟩ (c_X6_isCall l hst em kw kb D mm 4 1 t5 c2 ps2 pr l2 _) (cwV 2 hts gX6_promises_X6_isCall rfl rfl rfl (by decide +kernel) ⟨(Nat.le_of_ble_eq_true rfl), (Nat.le_of_ble_eq_true rfl)⟩) (tw_preV hF hS hFc hPc hKc hDc (va_recv hKc hPc (ci := 10) (q0 := 0) rfl rfl)) rfl rfl hl.1 rfl (lv_room (Nat.le_of_ble_eq_true rfl)) dX6_promises_21 ⟨(Nat.le_of_ble_eq_true rfl), (Nat.le_of_ble_eq_true rfl)⟩) hS (fun q _ h => hFc q h) hFc (fun r u t H locs ht hvm hw hB hz1 hk1 hS => ?_)
  obtain ⟨rfl, rfl⟩ := hw
  obtain ⟨hP, hD, hK⟩ := tw_join (wr := [(pr, .inl (cP, 2, .inr (.inr (.inr (.inr ((tw_two r0 r1))))))), (r0, .inl (cR, 24, .inr (.inr (.inr (.inr ((fun _ => none))))))), (r1, .inl (cR, 24, .inr (.inr (.inr (.inr ((fun _ => none)))))))]) hP hD hK [3, 4] [0, 1, 2] rfl rfl (by decide) (by decide) hk1 hFc ht hvm hB
  have hP : va_P D vwCl [(pr, .inl (cP, 2, .inr (.inr (.inr (.inr ((tw_two r0 r1))))))), (r0, .inl (cR, 24, .inr (.inr (.inr (.inr ((fun _ => none))))))), (r1, .inl (cR, 24, .inr (.inr (.inr (.inr ((fun _ => none))))))), (mm, .inr (10, [.int 0, .int 9, .int t5, .int 99, .ref c2, .ref ps2, .ref pr, .int 0, .int 0, .int ((-1)), .ref l2, .long 0])), (ps2, .inr (3, [.int 0, .ref em, .int 0]))] _ := hP
  have hD : va_D A [(pr, .inl (cP, 2, .inr (.inr (.inr (.inr ((tw_two r0 r1))))))), (r0, .inl (cR, 24, .inr (.inr (.inr (.inr ((fun _ => none))))))), (r1, .inl (cR, 24, .inr (.inr (.inr (.inr ((fun _ => none))))))), (mm, .inr (10, [.int 0, .int 9, .int t5, .int 99, .ref c2, .ref ps2, .ref pr, .int 0, .int 0, .int ((-1)), .ref l2, .long 0])), (ps2, .inr (3, [.int 0, .ref em, .int 0]))] := hD
  have hK : va_K D vwCl [(cP, .array (.object "TowerliftryModel$Car")), (cR, .object "TowerliftryModel$Car")] s := hK
  refine W.widen (k := 9) (n := 36) (Nat.le_refl _) (Nat.le_refl _) ?_
  refine W.eq (g2 := F0 m 24 ls [.int 0]) rfl ?_
  refine lv_if_eq (tgt := 58) hx hb dX6_promises_24 (by decide) (fun c9 => ?_) (fun c9 => absurd c9 (by decide))
  refine lv_iinc (v := ((-1))) (lv' := [(2, .int ((-1))), (1, .int 4), (0, .ref mm)]) hx hb dX6_promises_58 hl (k := 0) rfl (by decide) (by decide) rfl (fun ls hl => ?_)
  refine lv_goto (tgt := 12) hx hb dX6_promises_61 (by decide) ?_
  refine lv_iload_n hx hb dX6_promises_12 rfl (lv_at hl 0 rfl) ?_
  refine lv_bipush (v := (-2)) hx hb dX6_promises_13 (by decide) ?_
  refine lv_icmp_le (tgt := 64) hx hb dX6_promises_15 (by decide) (fun c9 => absurd c9 (by decide)) (fun c9 => ?_)
  refine lv_aload_n hx hb dX6_promises_18 rfl (lv_at hl 2 rfl) ?_
  refine lv_iload_n hx hb dX6_promises_19 rfl (lv_at hl 1 rfl) ?_
  refine lv_iload_n hx hb dX6_promises_20 rfl (lv_at hl 0 rfl) ?_
  have hPc := hP.sub (ws' := [(mm, .inr (10, [.int 0, .int 9, .int t5, .int 99, .ref c2, .ref ps2, .ref pr, .int 0, .int 0, .int ((-1)), .ref l2, .long 0])), (ps2, .inr (3, [.int 0, .ref em, .int 0]))]) [3, 4] rfl
  have hDc := hD.sub (ws' := [(mm, .inr (10, [.int 0, .int 9, .int t5, .int 99, .ref c2, .ref ps2, .ref pr, .int 0, .int 0, .int ((-1)), .ref l2, .long 0])), (ps2, .inr (3, [.int 0, .ref em, .int 0]))]) [3, 4] (by decide) rfl
  have hKc := hK.sub (tys' := []) [] rfl
  have hFc := va_free (wc := [(mm, .inr (10, [.int 0, .int 9, .int t5, .int 99, .ref c2, .ref ps2, .ref pr, .int 0, .int 0, .int ((-1)), .ref l2, .long 0])), (ps2, .inr (3, [.int 0, .ref em, .int 0]))]) hD hS hA [3, 4] rfl
  refine va_calli (va_runV (As := [.int 4, .int ((-1))]) (rest := []) ⟨hx, hb, hml, hown, hts⟩ (c_X6_isCall l hst em kw kb D mm 4 ((-1)) t5 c2 ps2 pr l2 _) (cwV 2 hts gX6_promises_X6_isCall rfl rfl rfl (by decide +kernel) ⟨(Nat.le_of_ble_eq_true rfl), (Nat.le_of_ble_eq_true rfl)⟩) (tw_preV hF hS hFc hPc hKc hDc (va_recv hKc hPc (ci := 10) (q0 := 0) rfl rfl)) rfl rfl hl.1 rfl (lv_room (Nat.le_of_ble_eq_true rfl)) dX6_promises_21 ⟨(Nat.le_of_ble_eq_true rfl), (Nat.le_of_ble_eq_true rfl)⟩) hS (fun q _ h => hFc q h) hFc (fun r u t H locs ht hvm hw hB hz1 hk1 hS => ?_)
  obtain ⟨rfl, rfl⟩ := hw
  obtain ⟨hP, hD, hK⟩ := tw_join (wr := [(pr, .inl (cP, 2, .inr (.inr (.inr (.inr ((tw_two r0 r1))))))), (r0, .inl (cR, 24, .inr (.inr (.inr (.inr ((fun _ => none))))))), (r1, .inl (cR, 24, .inr (.inr (.inr (.inr ((fun _ => none)))))))]) hP hD hK [3, 4] [0, 1, 2] rfl rfl (by decide) (by decide) hk1 hFc ht hvm hB
  have hP : va_P D vwCl [(pr, .inl (cP, 2, .inr (.inr (.inr (.inr ((tw_two r0 r1))))))), (r0, .inl (cR, 24, .inr (.inr (.inr (.inr ((fun _ => none))))))), (r1, .inl (cR, 24, .inr (.inr (.inr (.inr ((fun _ => none))))))), (mm, .inr (10, [.int 0, .int 9, .int t5, .int 99, .ref c2, .ref ps2, .ref pr, .int 0, .int 0, .int ((-1)), .ref l2, .long 0])), (ps2, .inr (3, [.int 0, .ref em, .int 0]))] _ := hP
  have hD : va_D A [(pr, .inl (cP, 2, .inr (.inr (.inr (.inr ((tw_two r0 r1))))))), (r0, .inl (cR, 24, .inr (.inr (.inr (.inr ((fun _ => none))))))), (r1, .inl (cR, 24, .inr (.inr (.inr (.inr ((fun _ => none))))))), (mm, .inr (10, [.int 0, .int 9, .int t5, .int 99, .ref c2, .ref ps2, .ref pr, .int 0, .int 0, .int ((-1)), .ref l2, .long 0])), (ps2, .inr (3, [.int 0, .ref em, .int 0]))] := hD
  have hK : va_K D vwCl [(cP, .array (.object "TowerliftryModel$Car")), (cR, .object "TowerliftryModel$Car")] s := hK
  refine W.widen (k := 10) (n := 40) (Nat.le_refl _) (Nat.le_refl _) ?_
  refine W.eq (g2 := F0 m 24 ls [.int 0]) rfl ?_
  refine lv_if_eq (tgt := 58) hx hb dX6_promises_24 (by decide) (fun c9 => ?_) (fun c9 => absurd c9 (by decide))
  refine lv_iinc (v := ((-3))) (lv' := [(2, .int ((-3))), (1, .int 4), (0, .ref mm)]) hx hb dX6_promises_58 hl (k := 0) rfl (by decide) (by decide) rfl (fun ls hl => ?_)
  refine lv_goto (tgt := 12) hx hb dX6_promises_61 (by decide) ?_
  refine lv_iload_n hx hb dX6_promises_12 rfl (lv_at hl 0 rfl) ?_
  refine lv_bipush (v := (-2)) hx hb dX6_promises_13 (by decide) ?_
  refine lv_icmp_le (tgt := 64) hx hb dX6_promises_15 (by decide) (fun c9 => ?_) (fun c9 => absurd c9 (by decide))
  refine lv_iinc (v := 5) (lv' := [(1, .int 5), (2, .int ((-3))), (0, .ref mm)]) hx hb dX6_promises_64 hl (k := 1) rfl (by decide) (by decide) rfl (fun ls hl => ?_)
  refine lv_goto (tgt := 2) hx hb dX6_promises_67 (by decide) ?_
  refine lv_iload_n hx hb dX6_promises_2 rfl (lv_at hl 0 rfl) ?_
  refine lv_aload_n hx hb dX6_promises_3 rfl (lv_at hl 2 rfl) ?_
  refine va_get (D := D) (ci := 10) (v := .int 9) (C := RX6) (T := TX6) (N := 12) hx hb hts hiRX6 hown hK hP 3 rfl rfl 1 (by decide) (hts (.fieldLink RX6 7 "TowerliftryModel" "top" "I") (by decide +kernel)) (fun _ h9 => h9) rfl dX6_promises_4 ?_
  refine lv_icmp_gt (tgt := 70) hx hb dX6_promises_7 (by decide) (fun c9 => absurd c9 (by decide)) (fun c9 => ?_)
  refine lv_iconst (v := 1) hx hb dX6_promises_10 (by decide) ?_
  refine lv_istore_n (lv' := [(2, .int 1), (1, .int 5), (0, .ref mm)]) hx hb dX6_promises_11 rfl hl (by decide) rfl (fun ls hl => ?_)
  refine lv_iload_n hx hb dX6_promises_12 rfl (lv_at hl 0 rfl) ?_
  refine lv_bipush (v := (-2)) hx hb dX6_promises_13 (by decide) ?_
  refine lv_icmp_le (tgt := 64) hx hb dX6_promises_15 (by decide) (fun c9 => absurd c9 (by decide)) (fun c9 => ?_)
  refine lv_aload_n hx hb dX6_promises_18 rfl (lv_at hl 2 rfl) ?_
  refine lv_iload_n hx hb dX6_promises_19 rfl (lv_at hl 1 rfl) ?_
  refine lv_iload_n hx hb dX6_promises_20 rfl (lv_at hl 0 rfl) ?_
  have hPc := hP.sub (ws' := [(mm, .inr (10, [.int 0, .int 9, .int t5, .int 99, .ref c2, .ref ps2, .ref pr, .int 0, .int 0, .int ((-1)), .ref l2, .long 0])), (ps2, .inr (3, [.int 0, .ref em, .int 0]))]) [3, 4] rfl
  have hDc := hD.sub (ws' := [(mm, .inr (10, [.int 0, .int 9, .int t5, .int 99, .ref c2, .ref ps2, .ref pr, .int 0, .int 0, .int ((-1)), .ref l2, .long 0])), (ps2, .inr (3, [.int 0, .ref em, .int 0]))]) [3, 4] (by decide) rfl
  have hKc := hK.sub (tys' := []) [] rfl
  have hFc := va_free (wc := [(mm, .inr (10, [.int 0, .int 9, .int t5, .int 99, .ref c2, .ref ps2, .ref pr, .int 0, .int 0, .int ((-1)), .ref l2, .long 0])), (ps2, .inr (3, [.int 0, .ref em, .int 0]))]) hD hS hA [3, 4] rfl
  refine va_calli (va_runV (As := [.int 5, .int 1]) (rest := []) ⟨hx, hb, hml, hown, hts⟩ (c_X6_isCall l hst em kw kb D mm 5 1 t5 c2 ps2 pr l2 _) (cwV 2 hts gX6_promises_X6_isCall rfl rfl rfl (by decide +kernel) ⟨(Nat.le_of_ble_eq_true rfl), (Nat.le_of_ble_eq_true rfl)⟩) (tw_preV hF hS hFc hPc hKc hDc (va_recv hKc hPc (ci := 10) (q0 := 0) rfl rfl)) rfl rfl hl.1 rfl (lv_room (Nat.le_of_ble_eq_true rfl)) dX6_promises_21 ⟨(Nat.le_of_ble_eq_true rfl), (Nat.le_of_ble_eq_true rfl)⟩) hS (fun q _ h => hFc q h) hFc (fun r u t H locs ht hvm hw hB hz1 hk1 hS => ?_)
  obtain ⟨rfl, rfl⟩ := hw
  obtain ⟨hP, hD, hK⟩ := tw_join (wr := [(pr, .inl (cP, 2, .inr (.inr (.inr (.inr ((tw_two r0 r1))))))), (r0, .inl (cR, 24, .inr (.inr (.inr (.inr ((fun _ => none))))))), (r1, .inl (cR, 24, .inr (.inr (.inr (.inr ((fun _ => none)))))))]) hP hD hK [3, 4] [0, 1, 2] rfl rfl (by decide) (by decide) hk1 hFc ht hvm hB
  have hP : va_P D vwCl [(pr, .inl (cP, 2, .inr (.inr (.inr (.inr ((tw_two r0 r1))))))), (r0, .inl (cR, 24, .inr (.inr (.inr (.inr ((fun _ => none))))))), (r1, .inl (cR, 24, .inr (.inr (.inr (.inr ((fun _ => none))))))), (mm, .inr (10, [.int 0, .int 9, .int t5, .int 99, .ref c2, .ref ps2, .ref pr, .int 0, .int 0, .int ((-1)), .ref l2, .long 0])), (ps2, .inr (3, [.int 0, .ref em, .int 0]))] _ := hP
  have hD : va_D A [(pr, .inl (cP, 2, .inr (.inr (.inr (.inr ((tw_two r0 r1))))))), (r0, .inl (cR, 24, .inr (.inr (.inr (.inr ((fun _ => none))))))), (r1, .inl (cR, 24, .inr (.inr (.inr (.inr ((fun _ => none))))))), (mm, .inr (10, [.int 0, .int 9, .int t5, .int 99, .ref c2, .ref ps2, .ref pr, .int 0, .int 0, .int ((-1)), .ref l2, .long 0])), (ps2, .inr (3, [.int 0, .ref em, .int 0]))] := hD
  have hK : va_K D vwCl [(cP, .array (.object "TowerliftryModel$Car")), (cR, .object "TowerliftryModel$Car")] s := hK
  refine W.widen (k := 11) (n := 44) (Nat.le_refl _) (Nat.le_refl _) ?_
  refine W.eq (g2 := F0 m 24 ls [.int 0]) rfl ?_
  refine lv_if_eq (tgt := 58) hx hb dX6_promises_24 (by decide) (fun c9 => ?_) (fun c9 => absurd c9 (by decide))
  refine lv_iinc (v := ((-1))) (lv' := [(2, .int ((-1))), (1, .int 5), (0, .ref mm)]) hx hb dX6_promises_58 hl (k := 0) rfl (by decide) (by decide) rfl (fun ls hl => ?_)
  refine lv_goto (tgt := 12) hx hb dX6_promises_61 (by decide) ?_
  refine lv_iload_n hx hb dX6_promises_12 rfl (lv_at hl 0 rfl) ?_
  refine lv_bipush (v := (-2)) hx hb dX6_promises_13 (by decide) ?_
  refine lv_icmp_le (tgt := 64) hx hb dX6_promises_15 (by decide) (fun c9 => absurd c9 (by decide)) (fun c9 => ?_)
  refine lv_aload_n hx hb dX6_promises_18 rfl (lv_at hl 2 rfl) ?_
  refine lv_iload_n hx hb dX6_promises_19 rfl (lv_at hl 1 rfl) ?_
  refine lv_iload_n hx hb dX6_promises_20 rfl (lv_at hl 0 rfl) ?_
  have hPc := hP.sub (ws' := [(mm, .inr (10, [.int 0, .int 9, .int t5, .int 99, .ref c2, .ref ps2, .ref pr, .int 0, .int 0, .int ((-1)), .ref l2, .long 0])), (ps2, .inr (3, [.int 0, .ref em, .int 0]))]) [3, 4] rfl
  have hDc := hD.sub (ws' := [(mm, .inr (10, [.int 0, .int 9, .int t5, .int 99, .ref c2, .ref ps2, .ref pr, .int 0, .int 0, .int ((-1)), .ref l2, .long 0])), (ps2, .inr (3, [.int 0, .ref em, .int 0]))]) [3, 4] (by decide) rfl
  have hKc := hK.sub (tys' := []) [] rfl
  have hFc := va_free (wc := [(mm, .inr (10, [.int 0, .int 9, .int t5, .int 99, .ref c2, .ref ps2, .ref pr, .int 0, .int 0, .int ((-1)), .ref l2, .long 0])), (ps2, .inr (3, [.int 0, .ref em, .int 0]))]) hD hS hA [3, 4] rfl
  refine va_calli (va_runV (As := [.int 5, .int ((-1))]) (rest := []) ⟨hx, hb, hml, hown, hts⟩ (c_X6_isCall l hst em kw kb D mm 5 ((-1)) t5 c2 ps2 pr l2 _) (cwV 2 hts gX6_promises_X6_isCall rfl rfl rfl (by decide +kernel) ⟨(Nat.le_of_ble_eq_true rfl), (Nat.le_of_ble_eq_true rfl)⟩) (tw_preV hF hS hFc hPc hKc hDc (va_recv hKc hPc (ci := 10) (q0 := 0) rfl rfl)) rfl rfl hl.1 rfl (lv_room (Nat.le_of_ble_eq_true rfl)) dX6_promises_21 ⟨(Nat.le_of_ble_eq_true rfl), (Nat.le_of_ble_eq_true rfl)⟩) hS (fun q _ h => hFc q h) hFc (fun r u t H locs ht hvm hw hB hz1 hk1 hS => ?_)
  obtain ⟨rfl, rfl⟩ := hw
  obtain ⟨hP, hD, hK⟩ := tw_join (wr := [(pr, .inl (cP, 2, .inr (.inr (.inr (.inr ((tw_two r0 r1))))))), (r0, .inl (cR, 24, .inr (.inr (.inr (.inr ((fun _ => none))))))), (r1, .inl (cR, 24, .inr (.inr (.inr (.inr ((fun _ => none)))))))]) hP hD hK [3, 4] [0, 1, 2] rfl rfl (by decide) (by decide) hk1 hFc ht hvm hB
  have hP : va_P D vwCl [(pr, .inl (cP, 2, .inr (.inr (.inr (.inr ((tw_two r0 r1))))))), (r0, .inl (cR, 24, .inr (.inr (.inr (.inr ((fun _ => none))))))), (r1, .inl (cR, 24, .inr (.inr (.inr (.inr ((fun _ => none))))))), (mm, .inr (10, [.int 0, .int 9, .int t5, .int 99, .ref c2, .ref ps2, .ref pr, .int 0, .int 0, .int ((-1)), .ref l2, .long 0])), (ps2, .inr (3, [.int 0, .ref em, .int 0]))] _ := hP
  have hD : va_D A [(pr, .inl (cP, 2, .inr (.inr (.inr (.inr ((tw_two r0 r1))))))), (r0, .inl (cR, 24, .inr (.inr (.inr (.inr ((fun _ => none))))))), (r1, .inl (cR, 24, .inr (.inr (.inr (.inr ((fun _ => none))))))), (mm, .inr (10, [.int 0, .int 9, .int t5, .int 99, .ref c2, .ref ps2, .ref pr, .int 0, .int 0, .int ((-1)), .ref l2, .long 0])), (ps2, .inr (3, [.int 0, .ref em, .int 0]))] := hD
  have hK : va_K D vwCl [(cP, .array (.object "TowerliftryModel$Car")), (cR, .object "TowerliftryModel$Car")] s := hK
  refine W.widen (k := 12) (n := 48) (Nat.le_refl _) (Nat.le_refl _) ?_
  refine W.eq (g2 := F0 m 24 ls [.int 0]) rfl ?_
  refine lv_if_eq (tgt := 58) hx hb dX6_promises_24 (by decide) (fun c9 => ?_) (fun c9 => absurd c9 (by decide))
  refine lv_iinc (v := ((-3))) (lv' := [(2, .int ((-3))), (1, .int 5), (0, .ref mm)]) hx hb dX6_promises_58 hl (k := 0) rfl (by decide) (by decide) rfl (fun ls hl => ?_)
  refine lv_goto (tgt := 12) hx hb dX6_promises_61 (by decide) ?_
  refine lv_iload_n hx hb dX6_promises_12 rfl (lv_at hl 0 rfl) ?_
  refine lv_bipush (v := (-2)) hx hb dX6_promises_13 (by decide) ?_
  refine lv_icmp_le (tgt := 64) hx hb dX6_promises_15 (by decide) (fun c9 => ?_) (fun c9 => absurd c9 (by decide))
  refine lv_iinc (v := 6) (lv' := [(1, .int 6), (2, .int ((-3))), (0, .ref mm)]) hx hb dX6_promises_64 hl (k := 1) rfl (by decide) (by decide) rfl (fun ls hl => ?_)
  refine lv_goto (tgt := 2) hx hb dX6_promises_67 (by decide) ?_
  refine lv_iload_n hx hb dX6_promises_2 rfl (lv_at hl 0 rfl) ?_
  refine lv_aload_n hx hb dX6_promises_3 rfl (lv_at hl 2 rfl) ?_
  refine va_get (D := D) (ci := 10) (v := .int 9) (C := RX6) (T := TX6) (N := 12) hx hb hts hiRX6 hown hK hP 3 rfl rfl 1 (by decide) (hts (.fieldLink RX6 7 "TowerliftryModel" "top" "I") (by decide +kernel)) (fun _ h9 => h9) rfl dX6_promises_4 ?_
  refine lv_icmp_gt (tgt := 70) hx hb dX6_promises_7 (by decide) (fun c9 => absurd c9 (by decide)) (fun c9 => ?_)
  refine lv_iconst (v := 1) hx hb dX6_promises_10 (by decide) ?_
  refine lv_istore_n (lv' := [(2, .int 1), (1, .int 6), (0, .ref mm)]) hx hb dX6_promises_11 rfl hl (by decide) rfl (fun ls hl => ?_)
  refine lv_iload_n hx hb dX6_promises_12 rfl (lv_at hl 0 rfl) ?_
  refine lv_bipush (v := (-2)) hx hb dX6_promises_13 (by decide) ?_
  refine lv_icmp_le (tgt := 64) hx hb dX6_promises_15 (by decide) (fun c9 => absurd c9 (by decide)) (fun c9 => ?_)
  refine lv_aload_n hx hb dX6_promises_18 rfl (lv_at hl 2 rfl) ?_
  refine lv_iload_n hx hb dX6_promises_19 rfl (lv_at hl 1 rfl) ?_
  refine lv_iload_n hx hb dX6_promises_20 rfl (lv_at hl 0 rfl) ?_
  have hPc := hP.sub (ws' := [(mm, .inr (10, [.int 0, .int 9, .int t5, .int 99, .ref c2, .ref ps2, .ref pr, .int 0, .int 0, .int ((-1)), .ref l2, .long 0])), (ps2, .inr (3, [.int 0, .ref em, .int 0]))]) [3, 4] rfl
  have hDc := hD.sub (ws' := [(mm, .inr (10, [.int 0, .int 9, .int t5, .int 99, .ref c2, .ref ps2, .ref pr, .int 0, .int 0, .int ((-1)), .ref l2, .long 0])), (ps2, .inr (3, [.int 0, .ref em, .int 0]))]) [3, 4] (by decide) rfl
  have hKc := hK.sub (tys' := []) [] rfl
  have hFc := va_free (wc := [(mm, .inr (10, [.int 0, .int 9, .int t5, .int 99, .ref c2, .ref ps2, .ref pr, .int 0, .int 0, .int ((-1)), .ref l2, .long 0])), (ps2, .inr (3, [.int 0, .ref em, .int 0]))]) hD hS hA [3, 4] rfl
  refine va_calli (va_runV (As := [.int 6, .int 1]) (rest := []) ⟨hx, hb, hml, hown, hts⟩ (c_X6_isCall l hst em kw kb D mm 6 1 t5 c2 ps2 pr l2 _) (cwV 2 hts gX6_promises_X6_isCall rfl rfl rfl (by decide +kernel) ⟨(Nat.le_of_ble_eq_true rfl), (Nat.le_of_ble_eq_true rfl)⟩) (tw_preV hF hS hFc hPc hKc hDc (va_recv hKc hPc (ci := 10) (q0 := 0) rfl rfl)) rfl rfl hl.1 rfl (lv_room (Nat.le_of_ble_eq_true rfl)) dX6_promises_21 ⟨(Nat.le_of_ble_eq_true rfl), (Nat.le_of_ble_eq_true rfl)⟩) hS (fun q _ h => hFc q h) hFc (fun r u t H locs ht hvm hw hB hz1 hk1 hS => ?_)
  obtain ⟨rfl, rfl⟩ := hw
  obtain ⟨hP, hD, hK⟩ := tw_join (wr := [(pr, .inl (cP, 2, .inr (.inr (.inr (.inr ((tw_two r0 r1))))))), (r0, .inl (cR, 24, .inr (.inr (.inr (.inr ((fun _ => none))))))), (r1, .inl (cR, 24, .inr (.inr (.inr (.inr ((fun _ => none)))))))]) hP hD hK [3, 4] [0, 1, 2] rfl rfl (by decide) (by decide) hk1 hFc ht hvm hB
  have hP : va_P D vwCl [(pr, .inl (cP, 2, .inr (.inr (.inr (.inr ((tw_two r0 r1))))))), (r0, .inl (cR, 24, .inr (.inr (.inr (.inr ((fun _ => none))))))), (r1, .inl (cR, 24, .inr (.inr (.inr (.inr ((fun _ => none))))))), (mm, .inr (10, [.int 0, .int 9, .int t5, .int 99, .ref c2, .ref ps2, .ref pr, .int 0, .int 0, .int ((-1)), .ref l2, .long 0])), (ps2, .inr (3, [.int 0, .ref em, .int 0]))] _ := hP
  have hD : va_D A [(pr, .inl (cP, 2, .inr (.inr (.inr (.inr ((tw_two r0 r1))))))), (r0, .inl (cR, 24, .inr (.inr (.inr (.inr ((fun _ => none))))))), (r1, .inl (cR, 24, .inr (.inr (.inr (.inr ((fun _ => none))))))), (mm, .inr (10, [.int 0, .int 9, .int t5, .int 99, .ref c2, .ref ps2, .ref pr, .int 0, .int 0, .int ((-1)), .ref l2, .long 0])), (ps2, .inr (3, [.int 0, .ref em, .int 0]))] := hD
  have hK : va_K D vwCl [(cP, .array (.object "TowerliftryModel$Car")), (cR, .object "TowerliftryModel$Car")] s := hK
  refine W.widen (k := 13) (n := 52) (Nat.le_refl _) (Nat.le_refl _) ?_
  refine W.eq (g2 := F0 m 24 ls [.int 0]) rfl ?_
  refine lv_if_eq (tgt := 58) hx hb dX6_promises_24 (by decide) (fun c9 => ?_) (fun c9 => absurd c9 (by decide))
  refine lv_iinc (v := ((-1))) (lv' := [(2, .int ((-1))), (1, .int 6), (0, .ref mm)]) hx hb dX6_promises_58 hl (k := 0) rfl (by decide) (by decide) rfl (fun ls hl => ?_)
  refine lv_goto (tgt := 12) hx hb dX6_promises_61 (by decide) ?_
  refine lv_iload_n hx hb dX6_promises_12 rfl (lv_at hl 0 rfl) ?_
  refine lv_bipush (v := (-2)) hx hb dX6_promises_13 (by decide) ?_
  refine lv_icmp_le (tgt := 64) hx hb dX6_promises_15 (by decide) (fun c9 => absurd c9 (by decide)) (fun c9 => ?_)
  refine lv_aload_n hx hb dX6_promises_18 rfl (lv_at hl 2 rfl) ?_
  refine lv_iload_n hx hb dX6_promises_19 rfl (lv_at hl 1 rfl) ?_
  refine lv_iload_n hx hb dX6_promises_20 rfl (lv_at hl 0 rfl) ?_
  have hPc := hP.sub (ws' := [(mm, .inr (10, [.int 0, .int 9, .int t5, .int 99, .ref c2, .ref ps2, .ref pr, .int 0, .int 0, .int ((-1)), .ref l2, .long 0])), (ps2, .inr (3, [.int 0, .ref em, .int 0]))]) [3, 4] rfl
  have hDc := hD.sub (ws' := [(mm, .inr (10, [.int 0, .int 9, .int t5, .int 99, .ref c2, .ref ps2, .ref pr, .int 0, .int 0, .int ((-1)), .ref l2, .long 0])), (ps2, .inr (3, [.int 0, .ref em, .int 0]))]) [3, 4] (by decide) rfl
  have hKc := hK.sub (tys' := []) [] rfl
  have hFc := va_free (wc := [(mm, .inr (10, [.int 0, .int 9, .int t5, .int 99, .ref c2, .ref ps2, .ref pr, .int 0, .int 0, .int ((-1)), .ref l2, .long 0])), (ps2, .inr (3, [.int 0, .ref em, .int 0]))]) hD hS hA [3, 4] rfl
  refine va_calli (va_runV (As := [.int 6, .int ((-1))]) (rest := []) ⟨hx, hb, hml, hown, hts⟩ (c_X6_isCall l hst em kw kb D mm 6 ((-1)) t5 c2 ps2 pr l2 _) (cwV 2 hts gX6_promises_X6_isCall rfl rfl rfl (by decide +kernel) ⟨(Nat.le_of_ble_eq_true rfl), (Nat.le_of_ble_eq_true rfl)⟩) (tw_preV hF hS hFc hPc hKc hDc (va_recv hKc hPc (ci := 10) (q0 := 0) rfl rfl)) rfl rfl hl.1 rfl (lv_room (Nat.le_of_ble_eq_true rfl)) dX6_promises_21 ⟨(Nat.le_of_ble_eq_true rfl), (Nat.le_of_ble_eq_true rfl)⟩) hS (fun q _ h => hFc q h) hFc (fun r u t H locs ht hvm hw hB hz1 hk1 hS => ?_)
  obtain ⟨rfl, rfl⟩ := hw
  obtain ⟨hP, hD, hK⟩ := tw_join (wr := [(pr, .inl (cP, 2, .inr (.inr (.inr (.inr ((tw_two r0 r1))))))), (r0, .inl (cR, 24, .inr (.inr (.inr (.inr ((fun _ => none))))))), (r1, .inl (cR, 24, .inr (.inr (.inr (.inr ((fun _ => none)))))))]) hP hD hK [3, 4] [0, 1, 2] rfl rfl (by decide) (by decide) hk1 hFc ht hvm hB
  have hP : va_P D vwCl [(pr, .inl (cP, 2, .inr (.inr (.inr (.inr ((tw_two r0 r1))))))), (r0, .inl (cR, 24, .inr (.inr (.inr (.inr ((fun _ => none))))))), (r1, .inl (cR, 24, .inr (.inr (.inr (.inr ((fun _ => none))))))), (mm, .inr (10, [.int 0, .int 9, .int t5, .int 99, .ref c2, .ref ps2, .ref pr, .int 0, .int 0, .int ((-1)), .ref l2, .long 0])), (ps2, .inr (3, [.int 0, .ref em, .int 0]))] _ := hP
  have hD : va_D A [(pr, .inl (cP, 2, .inr (.inr (.inr (.inr ((tw_two r0 r1))))))), (r0, .inl (cR, 24, .inr (.inr (.inr (.inr ((fun _ => none))))))), (r1, .inl (cR, 24, .inr (.inr (.inr (.inr ((fun _ => none))))))), (mm, .inr (10, [.int 0, .int 9, .int t5, .int 99, .ref c2, .ref ps2, .ref pr, .int 0, .int 0, .int ((-1)), .ref l2, .long 0])), (ps2, .inr (3, [.int 0, .ref em, .int 0]))] := hD
  have hK : va_K D vwCl [(cP, .array (.object "TowerliftryModel$Car")), (cR, .object "TowerliftryModel$Car")] s := hK
  refine W.widen (k := 14) (n := 56) (Nat.le_refl _) (Nat.le_refl _) ?_
  refine W.eq (g2 := F0 m 24 ls [.int 0]) rfl ?_
  refine lv_if_eq (tgt := 58) hx hb dX6_promises_24 (by decide) (fun c9 => ?_) (fun c9 => absurd c9 (by decide))
  refine lv_iinc (v := ((-3))) (lv' := [(2, .int ((-3))), (1, .int 6), (0, .ref mm)]) hx hb dX6_promises_58 hl (k := 0) rfl (by decide) (by decide) rfl (fun ls hl => ?_)
  refine lv_goto (tgt := 12) hx hb dX6_promises_61 (by decide) ?_
  refine lv_iload_n hx hb dX6_promises_12 rfl (lv_at hl 0 rfl) ?_
  refine lv_bipush (v := (-2)) hx hb dX6_promises_13 (by decide) ?_
  refine lv_icmp_le (tgt := 64) hx hb dX6_promises_15 (by decide) (fun c9 => ?_) (fun c9 => absurd c9 (by decide))
  refine lv_iinc (v := 7) (lv' := [(1, .int 7), (2, .int ((-3))), (0, .ref mm)]) hx hb dX6_promises_64 hl (k := 1) rfl (by decide) (by decide) rfl (fun ls hl => ?_)
  refine lv_goto (tgt := 2) hx hb dX6_promises_67 (by decide) ?_
  refine lv_iload_n hx hb dX6_promises_2 rfl (lv_at hl 0 rfl) ?_
  refine lv_aload_n hx hb dX6_promises_3 rfl (lv_at hl 2 rfl) ?_
  refine va_get (D := D) (ci := 10) (v := .int 9) (C := RX6) (T := TX6) (N := 12) hx hb hts hiRX6 hown hK hP 3 rfl rfl 1 (by decide) (hts (.fieldLink RX6 7 "TowerliftryModel" "top" "I") (by decide +kernel)) (fun _ h9 => h9) rfl dX6_promises_4 ?_
  refine lv_icmp_gt (tgt := 70) hx hb dX6_promises_7 (by decide) (fun c9 => absurd c9 (by decide)) (fun c9 => ?_)
  refine lv_iconst (v := 1) hx hb dX6_promises_10 (by decide) ?_
  refine lv_istore_n (lv' := [(2, .int 1), (1, .int 7), (0, .ref mm)]) hx hb dX6_promises_11 rfl hl (by decide) rfl (fun ls hl => ?_)
  refine lv_iload_n hx hb dX6_promises_12 rfl (lv_at hl 0 rfl) ?_
  refine lv_bipush (v := (-2)) hx hb dX6_promises_13 (by decide) ?_
  refine lv_icmp_le (tgt := 64) hx hb dX6_promises_15 (by decide) (fun c9 => absurd c9 (by decide)) (fun c9 => ?_)
  refine lv_aload_n hx hb dX6_promises_18 rfl (lv_at hl 2 rfl) ?_
  refine lv_iload_n hx hb dX6_promises_19 rfl (lv_at hl 1 rfl) ?_
  refine lv_iload_n hx hb dX6_promises_20 rfl (lv_at hl 0 rfl) ?_
  have hPc := hP.sub (ws' := [(mm, .inr (10, [.int 0, .int 9, .int t5, .int 99, .ref c2, .ref ps2, .ref pr, .int 0, .int 0, .int ((-1)), .ref l2, .long 0])), (ps2, .inr (3, [.int 0, .ref em, .int 0]))]) [3, 4] rfl
  have hDc := hD.sub (ws' := [(mm, .inr (10, [.int 0, .int 9, .int t5, .int 99, .ref c2, .ref ps2, .ref pr, .int 0, .int 0, .int ((-1)), .ref l2, .long 0])), (ps2, .inr (3, [.int 0, .ref em, .int 0]))]) [3, 4] (by decide) rfl
  have hKc := hK.sub (tys' := []) [] rfl
  have hFc := va_free (wc := [(mm, .inr (10, [.int 0, .int 9, .int t5, .int 99, .ref c2, .ref ps2, .ref pr, .int 0, .int 0, .int ((-1)), .ref l2, .long 0])), (ps2, .inr (3, [.int 0, .ref em, .int 0]))]) hD hS hA [3, 4] rfl
  refine va_calli (va_runV (As := [.int 7, .int 1]) (rest := []) ⟨hx, hb, hml, hown, hts⟩ (c_X6_isCall l hst em kw kb D mm 7 1 t5 c2 ps2 pr l2 _) (cwV 2 hts gX6_promises_X6_isCall rfl rfl rfl (by decide +kernel) ⟨(Nat.le_of_ble_eq_true rfl), (Nat.le_of_ble_eq_true rfl)⟩) (tw_preV hF hS hFc hPc hKc hDc (va_recv hKc hPc (ci := 10) (q0 := 0) rfl rfl)) rfl rfl hl.1 rfl (lv_room (Nat.le_of_ble_eq_true rfl)) dX6_promises_21 ⟨(Nat.le_of_ble_eq_true rfl), (Nat.le_of_ble_eq_true rfl)⟩) hS (fun q _ h => hFc q h) hFc (fun r u t H locs ht hvm hw hB hz1 hk1 hS => ?_)
  obtain ⟨rfl, rfl⟩ := hw
  obtain ⟨hP, hD, hK⟩ := tw_join (wr := [(pr, .inl (cP, 2, .inr (.inr (.inr (.inr ((tw_two r0 r1))))))), (r0, .inl (cR, 24, .inr (.inr (.inr (.inr ((fun _ => none))))))), (r1, .inl (cR, 24, .inr (.inr (.inr (.inr ((fun _ => none)))))))]) hP hD hK [3, 4] [0, 1, 2] rfl rfl (by decide) (by decide) hk1 hFc ht hvm hB
  have hP : va_P D vwCl [(pr, .inl (cP, 2, .inr (.inr (.inr (.inr ((tw_two r0 r1))))))), (r0, .inl (cR, 24, .inr (.inr (.inr (.inr ((fun _ => none))))))), (r1, .inl (cR, 24, .inr (.inr (.inr (.inr ((fun _ => none))))))), (mm, .inr (10, [.int 0, .int 9, .int t5, .int 99, .ref c2, .ref ps2, .ref pr, .int 0, .int 0, .int ((-1)), .ref l2, .long 0])), (ps2, .inr (3, [.int 0, .ref em, .int 0]))] _ := hP
  have hD : va_D A [(pr, .inl (cP, 2, .inr (.inr (.inr (.inr ((tw_two r0 r1))))))), (r0, .inl (cR, 24, .inr (.inr (.inr (.inr ((fun _ => none))))))), (r1, .inl (cR, 24, .inr (.inr (.inr (.inr ((fun _ => none))))))), (mm, .inr (10, [.int 0, .int 9, .int t5, .int 99, .ref c2, .ref ps2, .ref pr, .int 0, .int 0, .int ((-1)), .ref l2, .long 0])), (ps2, .inr (3, [.int 0, .ref em, .int 0]))] := hD
  have hK : va_K D vwCl [(cP, .array (.object "TowerliftryModel$Car")), (cR, .object "TowerliftryModel$Car")] s := hK
  refine W.widen (k := 15) (n := 60) (Nat.le_refl _) (Nat.le_refl _) ?_
  refine W.eq (g2 := F0 m 24 ls [.int 0]) rfl ?_
  refine lv_if_eq (tgt := 58) hx hb dX6_promises_24 (by decide) (fun c9 => ?_) (fun c9 => absurd c9 (by decide))
  refine lv_iinc (v := ((-1))) (lv' := [(2, .int ((-1))), (1, .int 7), (0, .ref mm)]) hx hb dX6_promises_58 hl (k := 0) rfl (by decide) (by decide) rfl (fun ls hl => ?_)
  refine lv_goto (tgt := 12) hx hb dX6_promises_61 (by decide) ?_
  refine lv_iload_n hx hb dX6_promises_12 rfl (lv_at hl 0 rfl) ?_
  refine lv_bipush (v := (-2)) hx hb dX6_promises_13 (by decide) ?_
  refine lv_icmp_le (tgt := 64) hx hb dX6_promises_15 (by decide) (fun c9 => absurd c9 (by decide)) (fun c9 => ?_)
  refine lv_aload_n hx hb dX6_promises_18 rfl (lv_at hl 2 rfl) ?_
  refine lv_iload_n hx hb dX6_promises_19 rfl (lv_at hl 1 rfl) ?_
  refine lv_iload_n hx hb dX6_promises_20 rfl (lv_at hl 0 rfl) ?_
  have hPc := hP.sub (ws' := [(mm, .inr (10, [.int 0, .int 9, .int t5, .int 99, .ref c2, .ref ps2, .ref pr, .int 0, .int 0, .int ((-1)), .ref l2, .long 0])), (ps2, .inr (3, [.int 0, .ref em, .int 0]))]) [3, 4] rfl
  have hDc := hD.sub (ws' := [(mm, .inr (10, [.int 0, .int 9, .int t5, .int 99, .ref c2, .ref ps2, .ref pr, .int 0, .int 0, .int ((-1)), .ref l2, .long 0])), (ps2, .inr (3, [.int 0, .ref em, .int 0]))]) [3, 4] (by decide) rfl
  have hKc := hK.sub (tys' := []) [] rfl
  have hFc := va_free (wc := [(mm, .inr (10, [.int 0, .int 9, .int t5, .int 99, .ref c2, .ref ps2, .ref pr, .int 0, .int 0, .int ((-1)), .ref l2, .long 0])), (ps2, .inr (3, [.int 0, .ref em, .int 0]))]) hD hS hA [3, 4] rfl
  refine va_calli (va_runV (As := [.int 7, .int ((-1))]) (rest := []) ⟨hx, hb, hml, hown, hts⟩ (c_X6_isCall l hst em kw kb D mm 7 ((-1)) t5 c2 ps2 pr l2 _) (cwV 2 hts gX6_promises_X6_isCall rfl rfl rfl (by decide +kernel) ⟨(Nat.le_of_ble_eq_true rfl), (Nat.le_of_ble_eq_true rfl)⟩) (tw_preV hF hS hFc hPc hKc hDc (va_recv hKc hPc (ci := 10) (q0 := 0) rfl rfl)) rfl rfl hl.1 rfl (lv_room (Nat.le_of_ble_eq_true rfl)) dX6_promises_21 ⟨(Nat.le_of_ble_eq_true rfl), (Nat.le_of_ble_eq_true rfl)⟩) hS (fun q _ h => hFc q h) hFc (fun r u t H locs ht hvm hw hB hz1 hk1 hS => ?_)
  obtain ⟨rfl, rfl⟩ := hw
  obtain ⟨hP, hD, hK⟩ := tw_join (wr := [(pr, .inl (cP, 2, .inr (.inr (.inr (.inr ((tw_two r0 r1))))))), (r0, .inl (cR, 24, .inr (.inr (.inr (.inr ((fun _ => none))))))), (r1, .inl (cR, 24, .inr (.inr (.inr (.inr ((fun _ => none)))))))]) hP hD hK [3, 4] [0, 1, 2] rfl rfl (by decide) (by decide) hk1 hFc ht hvm hB
  have hP : va_P D vwCl [(pr, .inl (cP, 2, .inr (.inr (.inr (.inr ((tw_two r0 r1))))))), (r0, .inl (cR, 24, .inr (.inr (.inr (.inr ((fun _ => none))))))), (r1, .inl (cR, 24, .inr (.inr (.inr (.inr ((fun _ => none))))))), (mm, .inr (10, [.int 0, .int 9, .int t5, .int 99, .ref c2, .ref ps2, .ref pr, .int 0, .int 0, .int ((-1)), .ref l2, .long 0])), (ps2, .inr (3, [.int 0, .ref em, .int 0]))] _ := hP
  have hD : va_D A [(pr, .inl (cP, 2, .inr (.inr (.inr (.inr ((tw_two r0 r1))))))), (r0, .inl (cR, 24, .inr (.inr (.inr (.inr ((fun _ => none))))))), (r1, .inl (cR, 24, .inr (.inr (.inr (.inr ((fun _ => none))))))), (mm, .inr (10, [.int 0, .int 9, .int t5, .int 99, .ref c2, .ref ps2, .ref pr, .int 0, .int 0, .int ((-1)), .ref l2, .long 0])), (ps2, .inr (3, [.int 0, .ref em, .int 0]))] := hD
  have hK : va_K D vwCl [(cP, .array (.object "TowerliftryModel$Car")), (cR, .object "TowerliftryModel$Car")] s := hK
  refine W.widen (k := 16) (n := 64) (Nat.le_refl _) (Nat.le_refl _) ?_
  refine W.eq (g2 := F0 m 24 ls [.int 0]) rfl ?_
  refine lv_if_eq (tgt := 58) hx hb dX6_promises_24 (by decide) (fun c9 => ?_) (fun c9 => absurd c9 (by decide))
  refine lv_iinc (v := ((-3))) (lv' := [(2, .int ((-3))), (1, .int 7), (0, .ref mm)]) hx hb dX6_promises_58 hl (k := 0) rfl (by decide) (by decide) rfl (fun ls hl => ?_)
  refine lv_goto (tgt := 12) hx hb dX6_promises_61 (by decide) ?_
  refine lv_iload_n hx hb dX6_promises_12 rfl (lv_at hl 0 rfl) ?_
  refine lv_bipush (v := (-2)) hx hb dX6_promises_13 (by decide) ?_
  refine lv_icmp_le (tgt := 64) hx hb dX6_promises_15 (by decide) (fun c9 => ?_) (fun c9 => absurd c9 (by decide))
  refine lv_iinc (v := 8) (lv' := [(1, .int 8), (2, .int ((-3))), (0, .ref mm)]) hx hb dX6_promises_64 hl (k := 1) rfl (by decide) (by decide) rfl (fun ls hl => ?_)
  refine lv_goto (tgt := 2) hx hb dX6_promises_67 (by decide) ?_
  refine lv_iload_n hx hb dX6_promises_2 rfl (lv_at hl 0 rfl) ?_
  refine lv_aload_n hx hb dX6_promises_3 rfl (lv_at hl 2 rfl) ?_
  refine va_get (D := D) (ci := 10) (v := .int 9) (C := RX6) (T := TX6) (N := 12) hx hb hts hiRX6 hown hK hP 3 rfl rfl 1 (by decide) (hts (.fieldLink RX6 7 "TowerliftryModel" "top" "I") (by decide +kernel)) (fun _ h9 => h9) rfl dX6_promises_4 ?_
  refine lv_icmp_gt (tgt := 70) hx hb dX6_promises_7 (by decide) (fun c9 => absurd c9 (by decide)) (fun c9 => ?_)
  refine lv_iconst (v := 1) hx hb dX6_promises_10 (by decide) ?_
  refine lv_istore_n (lv' := [(2, .int 1), (1, .int 8), (0, .ref mm)]) hx hb dX6_promises_11 rfl hl (by decide) rfl (fun ls hl => ?_)
  refine lv_iload_n hx hb dX6_promises_12 rfl (lv_at hl 0 rfl) ?_
  refine lv_bipush (v := (-2)) hx hb dX6_promises_13 (by decide) ?_
  refine lv_icmp_le (tgt := 64) hx hb dX6_promises_15 (by decide) (fun c9 => absurd c9 (by decide)) (fun c9 => ?_)
  refine lv_aload_n hx hb dX6_promises_18 rfl (lv_at hl 2 rfl) ?_
  refine lv_iload_n hx hb dX6_promises_19 rfl (lv_at hl 1 rfl) ?_
  refine lv_iload_n hx hb dX6_promises_20 rfl (lv_at hl 0 rfl) ?_
  have hPc := hP.sub (ws' := [(mm, .inr (10, [.int 0, .int 9, .int t5, .int 99, .ref c2, .ref ps2, .ref pr, .int 0, .int 0, .int ((-1)), .ref l2, .long 0])), (ps2, .inr (3, [.int 0, .ref em, .int 0]))]) [3, 4] rfl
  have hDc := hD.sub (ws' := [(mm, .inr (10, [.int 0, .int 9, .int t5, .int 99, .ref c2, .ref ps2, .ref pr, .int 0, .int 0, .int ((-1)), .ref l2, .long 0])), (ps2, .inr (3, [.int 0, .ref em, .int 0]))]) [3, 4] (by decide) rfl
  have hKc := hK.sub (tys' := []) [] rfl
  have hFc := va_free (wc := [(mm, .inr (10, [.int 0, .int 9, .int t5, .int 99, .ref c2, .ref ps2, .ref pr, .int 0, .int 0, .int ((-1)), .ref l2, .long 0])), (ps2, .inr (3, [.int 0, .ref em, .int 0]))]) hD hS hA [3, 4] rfl
  refine va_calli (va_runV (As := [.int 8, .int 1]) (rest := []) ⟨hx, hb, hml, hown, hts⟩ (c_X6_isCall l hst em kw kb D mm 8 1 t5 c2 ps2 pr l2 _) (cwV 2 hts gX6_promises_X6_isCall rfl rfl rfl (by decide +kernel) ⟨(Nat.le_of_ble_eq_true rfl), (Nat.le_of_ble_eq_true rfl)⟩) (tw_preV hF hS hFc hPc hKc hDc (va_recv hKc hPc (ci := 10) (q0 := 0) rfl rfl)) rfl rfl hl.1 rfl (lv_room (Nat.le_of_ble_eq_true rfl)) dX6_promises_21 ⟨(Nat.le_of_ble_eq_true rfl), (Nat.le_of_ble_eq_true rfl)⟩) hS (fun q _ h => hFc q h) hFc (fun r u t H locs ht hvm hw hB hz1 hk1 hS => ?_)
  obtain ⟨rfl, rfl⟩ := hw
  obtain ⟨hP, hD, hK⟩ := tw_join (wr := [(pr, .inl (cP, 2, .inr (.inr (.inr (.inr ((tw_two r0 r1))))))), (r0, .inl (cR, 24, .inr (.inr (.inr (.inr ((fun _ => none))))))), (r1, .inl (cR, 24, .inr (.inr (.inr (.inr ((fun _ => none)))))))]) hP hD hK [3, 4] [0, 1, 2] rfl rfl (by decide) (by decide) hk1 hFc ht hvm hB
  have hP : va_P D vwCl [(pr, .inl (cP, 2, .inr (.inr (.inr (.inr ((tw_two r0 r1))))))), (r0, .inl (cR, 24, .inr (.inr (.inr (.inr ((fun _ => none))))))), (r1, .inl (cR, 24, .inr (.inr (.inr (.inr ((fun _ => none))))))), (mm, .inr (10, [.int 0, .int 9, .int t5, .int 99, .ref c2, .ref ps2, .ref pr, .int 0, .int 0, .int ((-1)), .ref l2, .long 0])), (ps2, .inr (3, [.int 0, .ref em, .int 0]))] _ := hP
  have hD : va_D A [(pr, .inl (cP, 2, .inr (.inr (.inr (.inr ((tw_two r0 r1))))))), (r0, .inl (cR, 24, .inr (.inr (.inr (.inr ((fun _ => none))))))), (r1, .inl (cR, 24, .inr (.inr (.inr (.inr ((fun _ => none))))))), (mm, .inr (10, [.int 0, .int 9, .int t5, .int 99, .ref c2, .ref ps2, .ref pr, .int 0, .int 0, .int ((-1)), .ref l2, .long 0])), (ps2, .inr (3, [.int 0, .ref em, .int 0]))] := hD
  have hK : va_K D vwCl [(cP, .array (.object "TowerliftryModel$Car")), (cR, .object "TowerliftryModel$Car")] s := hK
  refine W.widen (k := 17) (n := 68) (Nat.le_refl _) (Nat.le_refl _) ?_
  refine W.eq (g2 := F0 m 24 ls [.int 0]) rfl ?_
  refine lv_if_eq (tgt := 58) hx hb dX6_promises_24 (by decide) (fun c9 => ?_) (fun c9 => absurd c9 (by decide))
  refine lv_iinc (v := ((-1))) (lv' := [(2, .int ((-1))), (1, .int 8), (0, .ref mm)]) hx hb dX6_promises_58 hl (k := 0) rfl (by decide) (by decide) rfl (fun ls hl => ?_)
  refine lv_goto (tgt := 12) hx hb dX6_promises_61 (by decide) ?_
  refine lv_iload_n hx hb dX6_promises_12 rfl (lv_at hl 0 rfl) ?_
  refine lv_bipush (v := (-2)) hx hb dX6_promises_13 (by decide) ?_
  refine lv_icmp_le (tgt := 64) hx hb dX6_promises_15 (by decide) (fun c9 => absurd c9 (by decide)) (fun c9 => ?_)
  refine lv_aload_n hx hb dX6_promises_18 rfl (lv_at hl 2 rfl) ?_
  refine lv_iload_n hx hb dX6_promises_19 rfl (lv_at hl 1 rfl) ?_
  refine lv_iload_n hx hb dX6_promises_20 rfl (lv_at hl 0 rfl) ?_
  have hPc := hP.sub (ws' := [(mm, .inr (10, [.int 0, .int 9, .int t5, .int 99, .ref c2, .ref ps2, .ref pr, .int 0, .int 0, .int ((-1)), .ref l2, .long 0])), (ps2, .inr (3, [.int 0, .ref em, .int 0]))]) [3, 4] rfl
  have hDc := hD.sub (ws' := [(mm, .inr (10, [.int 0, .int 9, .int t5, .int 99, .ref c2, .ref ps2, .ref pr, .int 0, .int 0, .int ((-1)), .ref l2, .long 0])), (ps2, .inr (3, [.int 0, .ref em, .int 0]))]) [3, 4] (by decide) rfl
  have hKc := hK.sub (tys' := []) [] rfl
  have hFc := va_free (wc := [(mm, .inr (10, [.int 0, .int 9, .int t5, .int 99, .ref c2, .ref ps2, .ref pr, .int 0, .int 0, .int ((-1)), .ref l2, .long 0])), (ps2, .inr (3, [.int 0, .ref em, .int 0]))]) hD hS hA [3, 4] rfl
  refine va_calli (va_runV (As := [.int 8, .int ((-1))]) (rest := []) ⟨hx, hb, hml, hown, hts⟩ (c_X6_isCall l hst em kw kb D mm 8 ((-1)) t5 c2 ps2 pr l2 _) (cwV 2 hts gX6_promises_X6_isCall rfl rfl rfl (by decide +kernel) ⟨(Nat.le_of_ble_eq_true rfl), (Nat.le_of_ble_eq_true rfl)⟩) (tw_preV hF hS hFc hPc hKc hDc (va_recv hKc hPc (ci := 10) (q0 := 0) rfl rfl)) rfl rfl hl.1 rfl (lv_room (Nat.le_of_ble_eq_true rfl)) dX6_promises_21 ⟨(Nat.le_of_ble_eq_true rfl), (Nat.le_of_ble_eq_true rfl)⟩) hS (fun q _ h => hFc q h) hFc (fun r u t H locs ht hvm hw hB hz1 hk1 hS => ?_)
  obtain ⟨rfl, rfl⟩ := hw
  obtain ⟨hP, hD, hK⟩ := tw_join (wr := [(pr, .inl (cP, 2, .inr (.inr (.inr (.inr ((tw_two r0 r1))))))), (r0, .inl (cR, 24, .inr (.inr (.inr (.inr ((fun _ => none))))))), (r1, .inl (cR, 24, .inr (.inr (.inr (.inr ((fun _ => none)))))))]) hP hD hK [3, 4] [0, 1, 2] rfl rfl (by decide) (by decide) hk1 hFc ht hvm hB
  have hP : va_P D vwCl [(pr, .inl (cP, 2, .inr (.inr (.inr (.inr ((tw_two r0 r1))))))), (r0, .inl (cR, 24, .inr (.inr (.inr (.inr ((fun _ => none))))))), (r1, .inl (cR, 24, .inr (.inr (.inr (.inr ((fun _ => none))))))), (mm, .inr (10, [.int 0, .int 9, .int t5, .int 99, .ref c2, .ref ps2, .ref pr, .int 0, .int 0, .int ((-1)), .ref l2, .long 0])), (ps2, .inr (3, [.int 0, .ref em, .int 0]))] _ := hP
  have hD : va_D A [(pr, .inl (cP, 2, .inr (.inr (.inr (.inr ((tw_two r0 r1))))))), (r0, .inl (cR, 24, .inr (.inr (.inr (.inr ((fun _ => none))))))), (r1, .inl (cR, 24, .inr (.inr (.inr (.inr ((fun _ => none))))))), (mm, .inr (10, [.int 0, .int 9, .int t5, .int 99, .ref c2, .ref ps2, .ref pr, .int 0, .int 0, .int ((-1)), .ref l2, .long 0])), (ps2, .inr (3, [.int 0, .ref em, .int 0]))] := hD
  have hK : va_K D vwCl [(cP, .array (.object "TowerliftryModel$Car")), (cR, .object "TowerliftryModel$Car")] s := hK
  refine W.widen (k := 18) (n := 72) (Nat.le_refl _) (Nat.le_refl _) ?_
  refine W.eq (g2 := F0 m 24 ls [.int 0]) rfl ?_
  refine lv_if_eq (tgt := 58) hx hb dX6_promises_24 (by decide) (fun c9 => ?_) (fun c9 => absurd c9 (by decide))
  refine lv_iinc (v := ((-3))) (lv' := [(2, .int ((-3))), (1, .int 8), (0, .ref mm)]) hx hb dX6_promises_58 hl (k := 0) rfl (by decide) (by decide) rfl (fun ls hl => ?_)
  refine lv_goto (tgt := 12) hx hb dX6_promises_61 (by decide) ?_
  refine lv_iload_n hx hb dX6_promises_12 rfl (lv_at hl 0 rfl) ?_
  refine lv_bipush (v := (-2)) hx hb dX6_promises_13 (by decide) ?_
  refine lv_icmp_le (tgt := 64) hx hb dX6_promises_15 (by decide) (fun c9 => ?_) (fun c9 => absurd c9 (by decide))
  refine lv_iinc (v := 9) (lv' := [(1, .int 9), (2, .int ((-3))), (0, .ref mm)]) hx hb dX6_promises_64 hl (k := 1) rfl (by decide) (by decide) rfl (fun ls hl => ?_)
  refine lv_goto (tgt := 2) hx hb dX6_promises_67 (by decide) ?_
  refine lv_iload_n hx hb dX6_promises_2 rfl (lv_at hl 0 rfl) ?_
  refine lv_aload_n hx hb dX6_promises_3 rfl (lv_at hl 2 rfl) ?_
  refine va_get (D := D) (ci := 10) (v := .int 9) (C := RX6) (T := TX6) (N := 12) hx hb hts hiRX6 hown hK hP 3 rfl rfl 1 (by decide) (hts (.fieldLink RX6 7 "TowerliftryModel" "top" "I") (by decide +kernel)) (fun _ h9 => h9) rfl dX6_promises_4 ?_
  refine lv_icmp_gt (tgt := 70) hx hb dX6_promises_7 (by decide) (fun c9 => absurd c9 (by decide)) (fun c9 => ?_)
  refine lv_iconst (v := 1) hx hb dX6_promises_10 (by decide) ?_
  refine lv_istore_n (lv' := [(2, .int 1), (1, .int 9), (0, .ref mm)]) hx hb dX6_promises_11 rfl hl (by decide) rfl (fun ls hl => ?_)
  refine lv_iload_n hx hb dX6_promises_12 rfl (lv_at hl 0 rfl) ?_
  refine lv_bipush (v := (-2)) hx hb dX6_promises_13 (by decide) ?_
  refine lv_icmp_le (tgt := 64) hx hb dX6_promises_15 (by decide) (fun c9 => absurd c9 (by decide)) (fun c9 => ?_)
  refine lv_aload_n hx hb dX6_promises_18 rfl (lv_at hl 2 rfl) ?_
  refine lv_iload_n hx hb dX6_promises_19 rfl (lv_at hl 1 rfl) ?_
  refine lv_iload_n hx hb dX6_promises_20 rfl (lv_at hl 0 rfl) ?_
  have hPc := hP.sub (ws' := [(mm, .inr (10, [.int 0, .int 9, .int t5, .int 99, .ref c2, .ref ps2, .ref pr, .int 0, .int 0, .int ((-1)), .ref l2, .long 0])), (ps2, .inr (3, [.int 0, .ref em, .int 0]))]) [3, 4] rfl
  have hDc := hD.sub (ws' := [(mm, .inr (10, [.int 0, .int 9, .int t5, .int 99, .ref c2, .ref ps2, .ref pr, .int 0, .int 0, .int ((-1)), .ref l2, .long 0])), (ps2, .inr (3, [.int 0, .ref em, .int 0]))]) [3, 4] (by decide) rfl
  have hKc := hK.sub (tys' := []) [] rfl
  have hFc := va_free (wc := [(mm, .inr (10, [.int 0, .int 9, .int t5, .int 99, .ref c2, .ref ps2, .ref pr, .int 0, .int 0, .int ((-1)), .ref l2, .long 0])), (ps2, .inr (3, [.int 0, .ref em, .int 0]))]) hD hS hA [3, 4] rfl
  refine va_calli (va_runV (As := [.int 9, .int 1]) (rest := []) ⟨hx, hb, hml, hown, hts⟩ (c_X6_isCall l hst em kw kb D mm 9 1 t5 c2 ps2 pr l2 _) (cwV 2 hts gX6_promises_X6_isCall rfl rfl rfl (by decide +kernel) ⟨(Nat.le_of_ble_eq_true rfl), (Nat.le_of_ble_eq_true rfl)⟩) (tw_preV hF hS hFc hPc hKc hDc (va_recv hKc hPc (ci := 10) (q0 := 0) rfl rfl)) rfl rfl hl.1 rfl (lv_room (Nat.le_of_ble_eq_true rfl)) dX6_promises_21 ⟨(Nat.le_of_ble_eq_true rfl), (Nat.le_of_ble_eq_true rfl)⟩) hS (fun q _ h => hFc q h) hFc (fun r u t H locs ht hvm hw hB hz1 hk1 hS => ?_)
  obtain ⟨rfl, rfl⟩ := hw
  obtain ⟨hP, hD, hK⟩ := tw_join (wr := [(pr, .inl (cP, 2, .inr (.inr (.inr (.inr ((tw_two r0 r1))))))), (r0, .inl (cR, 24, .inr (.inr (.inr (.inr ((fun _ => none))))))), (r1, .inl (cR, 24, .inr (.inr (.inr (.inr ((fun _ => none)))))))]) hP hD hK [3, 4] [0, 1, 2] rfl rfl (by decide) (by decide) hk1 hFc ht hvm hB
  have hP : va_P D vwCl [(pr, .inl (cP, 2, .inr (.inr (.inr (.inr ((tw_two r0 r1))))))), (r0, .inl (cR, 24, .inr (.inr (.inr (.inr ((fun _ => none))))))), (r1, .inl (cR, 24, .inr (.inr (.inr (.inr ((fun _ => none))))))), (mm, .inr (10, [.int 0, .int 9, .int t5, .int 99, .ref c2, .ref ps2, .ref pr, .int 0, .int 0, .int ((-1)), .ref l2, .long 0])), (ps2, .inr (3, [.int 0, .ref em, .int 0]))] _ := hP
  have hD : va_D A [(pr, .inl (cP, 2, .inr (.inr (.inr (.inr ((tw_two r0 r1))))))), (r0, .inl (cR, 24, .inr (.inr (.inr (.inr ((fun _ => none))))))), (r1, .inl (cR, 24, .inr (.inr (.inr (.inr ((fun _ => none))))))), (mm, .inr (10, [.int 0, .int 9, .int t5, .int 99, .ref c2, .ref ps2, .ref pr, .int 0, .int 0, .int ((-1)), .ref l2, .long 0])), (ps2, .inr (3, [.int 0, .ref em, .int 0]))] := hD
  have hK : va_K D vwCl [(cP, .array (.object "TowerliftryModel$Car")), (cR, .object "TowerliftryModel$Car")] s := hK
  refine W.widen (k := 19) (n := 76) (Nat.le_refl _) (Nat.le_refl _) ?_
  refine W.eq (g2 := F0 m 24 ls [.int 0]) rfl ?_
  refine lv_if_eq (tgt := 58) hx hb dX6_promises_24 (by decide) (fun c9 => ?_) (fun c9 => absurd c9 (by decide))
  refine lv_iinc (v := ((-1))) (lv' := [(2, .int ((-1))), (1, .int 9), (0, .ref mm)]) hx hb dX6_promises_58 hl (k := 0) rfl (by decide) (by decide) rfl (fun ls hl => ?_)
  refine lv_goto (tgt := 12) hx hb dX6_promises_61 (by decide) ?_
  refine lv_iload_n hx hb dX6_promises_12 rfl (lv_at hl 0 rfl) ?_
  refine lv_bipush (v := (-2)) hx hb dX6_promises_13 (by decide) ?_
  refine lv_icmp_le (tgt := 64) hx hb dX6_promises_15 (by decide) (fun c9 => absurd c9 (by decide)) (fun c9 => ?_)
  refine lv_aload_n hx hb dX6_promises_18 rfl (lv_at hl 2 rfl) ?_
  refine lv_iload_n hx hb dX6_promises_19 rfl (lv_at hl 1 rfl) ?_
  refine lv_iload_n hx hb dX6_promises_20 rfl (lv_at hl 0 rfl) ?_
  have hPc := hP.sub (ws' := [(mm, .inr (10, [.int 0, .int 9, .int t5, .int 99, .ref c2, .ref ps2, .ref pr, .int 0, .int 0, .int ((-1)), .ref l2, .long 0])), (ps2, .inr (3, [.int 0, .ref em, .int 0]))]) [3, 4] rfl
  have hDc := hD.sub (ws' := [(mm, .inr (10, [.int 0, .int 9, .int t5, .int 99, .ref c2, .ref ps2, .ref pr, .int 0, .int 0, .int ((-1)), .ref l2, .long 0])), (ps2, .inr (3, [.int 0, .ref em, .int 0]))]) [3, 4] (by decide) rfl
  have hKc := hK.sub (tys' := []) [] rfl
  have hFc := va_free (wc := [(mm, .inr (10, [.int 0, .int 9, .int t5, .int 99, .ref c2, .ref ps2, .ref pr, .int 0, .int 0, .int ((-1)), .ref l2, .long 0])), (ps2, .inr (3, [.int 0, .ref em, .int 0]))]) hD hS hA [3, 4] rfl
  refine va_calli (va_runV (As := [.int 9, .int ((-1))]) (rest := []) ⟨hx, hb, hml, hown, hts⟩ (c_X6_isCall l hst em kw kb D mm 9 ((-1)) t5 c2 ps2 pr l2 _) (cwV 2 hts gX6_promises_X6_isCall rfl rfl rfl (by decide +kernel) ⟨(Nat.le_of_ble_eq_true rfl), (Nat.le_of_ble_eq_true rfl)⟩) (tw_preV hF hS hFc hPc hKc hDc (va_recv hKc hPc (ci := 10) (q0 := 0) rfl rfl)) rfl rfl hl.1 rfl (lv_room (Nat.le_of_ble_eq_true rfl)) dX6_promises_21 ⟨(Nat.le_of_ble_eq_true rfl), (Nat.le_of_ble_eq_true rfl)⟩) hS (fun q _ h => hFc q h) hFc (fun r u t H locs ht hvm hw hB hz1 hk1 hS => ?_)
  obtain ⟨rfl, rfl⟩ := hw
  obtain ⟨hP, hD, hK⟩ := tw_join (wr := [(pr, .inl (cP, 2, .inr (.inr (.inr (.inr ((tw_two r0 r1))))))), (r0, .inl (cR, 24, .inr (.inr (.inr (.inr ((fun _ => none))))))), (r1, .inl (cR, 24, .inr (.inr (.inr (.inr ((fun _ => none)))))))]) hP hD hK [3, 4] [0, 1, 2] rfl rfl (by decide) (by decide) hk1 hFc ht hvm hB
  have hP : va_P D vwCl [(pr, .inl (cP, 2, .inr (.inr (.inr (.inr ((tw_two r0 r1))))))), (r0, .inl (cR, 24, .inr (.inr (.inr (.inr ((fun _ => none))))))), (r1, .inl (cR, 24, .inr (.inr (.inr (.inr ((fun _ => none))))))), (mm, .inr (10, [.int 0, .int 9, .int t5, .int 99, .ref c2, .ref ps2, .ref pr, .int 0, .int 0, .int ((-1)), .ref l2, .long 0])), (ps2, .inr (3, [.int 0, .ref em, .int 0]))] _ := hP
  have hD : va_D A [(pr, .inl (cP, 2, .inr (.inr (.inr (.inr ((tw_two r0 r1))))))), (r0, .inl (cR, 24, .inr (.inr (.inr (.inr ((fun _ => none))))))), (r1, .inl (cR, 24, .inr (.inr (.inr (.inr ((fun _ => none))))))), (mm, .inr (10, [.int 0, .int 9, .int t5, .int 99, .ref c2, .ref ps2, .ref pr, .int 0, .int 0, .int ((-1)), .ref l2, .long 0])), (ps2, .inr (3, [.int 0, .ref em, .int 0]))] := hD
  have hK : va_K D vwCl [(cP, .array (.object "TowerliftryModel$Car")), (cR, .object "TowerliftryModel$Car")] s := hK
  refine W.widen (k := 20) (n := 80) (Nat.le_refl _) (Nat.le_refl _) ?_
  refine W.eq (g2 := F0 m 24 ls [.int 0]) rfl ?_
  refine lv_if_eq (tgt := 58) hx hb dX6_promises_24 (by decide) (fun c9 => ?_) (fun c9 => absurd c9 (by decide))
  refine lv_iinc (v := ((-3))) (lv' := [(2, .int ((-3))), (1, .int 9), (0, .ref mm)]) hx hb dX6_promises_58 hl (k := 0) rfl (by decide) (by decide) rfl (fun ls hl => ?_)
  refine lv_goto (tgt := 12) hx hb dX6_promises_61 (by decide) ?_
  refine lv_iload_n hx hb dX6_promises_12 rfl (lv_at hl 0 rfl) ?_
  refine lv_bipush (v := (-2)) hx hb dX6_promises_13 (by decide) ?_
  refine lv_icmp_le (tgt := 64) hx hb dX6_promises_15 (by decide) (fun c9 => ?_) (fun c9 => absurd c9 (by decide))
  refine lv_iinc (v := 10) (lv' := [(1, .int 10), (2, .int ((-3))), (0, .ref mm)]) hx hb dX6_promises_64 hl (k := 1) rfl (by decide) (by decide) rfl (fun ls hl => ?_)
  refine lv_goto (tgt := 2) hx hb dX6_promises_67 (by decide) ?_
  refine lv_iload_n hx hb dX6_promises_2 rfl (lv_at hl 0 rfl) ?_
  refine lv_aload_n hx hb dX6_promises_3 rfl (lv_at hl 2 rfl) ?_
  refine va_get (D := D) (ci := 10) (v := .int 9) (C := RX6) (T := TX6) (N := 12) hx hb hts hiRX6 hown hK hP 3 rfl rfl 1 (by decide) (hts (.fieldLink RX6 7 "TowerliftryModel" "top" "I") (by decide +kernel)) (fun _ h9 => h9) rfl dX6_promises_4 ?_
  refine lv_icmp_gt (tgt := 70) hx hb dX6_promises_7 (by decide) (fun c9 => ?_) (fun c9 => absurd c9 (by decide))
  refine W.widen (k := 20) (n := 80) (Nat.le_of_ble_eq_true rfl) (Nat.le_of_ble_eq_true rfl) ?_
  have hP9 := hP.sub (ws' := [(mm, .inr (10, [.int 0, .int 9, .int t5, .int 99, .ref c2, .ref ps2, .ref pr, .int 0, .int 0, .int ((-1)), .ref l2, .long 0])), (ps2, .inr (3, [.int 0, .ref em, .int 0])), (pr, .inl (cP, 2, .inr (.inr (.inr (.inr ((tw_two r0 r1))))))), (r0, .inl (cR, 24, .inr (.inr (.inr (.inr ((fun _ => none))))))), (r1, .inl (cR, 24, .inr (.inr (.inr (.inr ((fun _ => none)))))))]) [3, 4, 0, 1, 2] rfl
  have hD9 := hD.sub (ws' := [(mm, .inr (10, [.int 0, .int 9, .int t5, .int 99, .ref c2, .ref ps2, .ref pr, .int 0, .int 0, .int ((-1)), .ref l2, .long 0])), (ps2, .inr (3, [.int 0, .ref em, .int 0])), (pr, .inl (cP, 2, .inr (.inr (.inr (.inr ((tw_two r0 r1))))))), (r0, .inl (cR, 24, .inr (.inr (.inr (.inr ((fun _ => none))))))), (r1, .inl (cR, 24, .inr (.inr (.inr (.inr ((fun _ => none)))))))]) [3, 4, 0, 1, 2] (by decide) rfl
  have hK9 := hK.sub (tys' := []) [] rfl
  exact W.vret hx hb hr (fun t ht hW => ⟨⟨([(mm, .inr (10, [.int 0, .int 9, .int t5, .int 99, .ref c2, .ref ps2, .ref pr, .int 0, .int 0, .int ((-1)), .ref l2, .long 0])), (ps2, .inr (3, [.int 0, .ref em, .int 0])), (pr, .inl (cP, 2, .inr (.inr (.inr (.inr ((tw_two r0 r1))))))), (r0, .inl (cR, 24, .inr (.inr (.inr (.inr ((fun _ => none))))))), (r1, .inl (cR, 24, .inr (.inr (.inr (.inr ((fun _ => none)))))))], []), rfl, rfl, by rw [ht]; exact hP9, va_K.moved hW.alike hK9, hD9⟩, hS.F ht⟩) hS.2.2 dX6_promises_70
