theorem dX6_passes_0 : decode cX6_passes 0 = .ok (.aload_n 0, 1) := by decide +kernel
theorem dX6_passes_1 : decode cX6_passes 1 = .ok (.getfield 24, 3) := by decide +kernel
set_option maxRecDepth 20000 in
theorem ggX6_passes_Jx4a65c_iterator_32c93 : GoodIn wsX6_passes wsJx4a65c_iterator_32c93 := goodIn_r _ [12, 13, 14, 15, 16, 17, 18, 19, 20, 21, 22, 23, 24, 25, 26, 310, 311, 312, 313, 314, 315, 316] (by decide +kernel) (by decide +kernel)
set_option maxRecDepth 20000 in
theorem gX6_passes_Jx4a65c_iterator_32c93 : GoodIn wsX6_passes (wsV RX6 60 RJx4a65c yJx4a65c_iterator_32c93 wsJx4a65c_iterator_32c93) := goodIn_app (goodIn_of _ (by decide +kernel)) ggX6_passes_Jx4a65c_iterator_32c93
theorem dX6_passes_4 : decode cX6_passes 4 = .ok (.invokevirtual 60, 3) := by decide +kernel
theorem dX6_passes_7 : decode cX6_passes 7 = .ok (.astore_n 1, 1) := by decide +kernel
theorem dX6_passes_8 : decode cX6_passes 8 = .ok (.aload_n 1, 1) := by decide +kernel
set_option maxRecDepth 20000 in
theorem ggX6_passes_Jx35411_hasNext_aae02 : GoodIn wsX6_passes wsJx35411_hasNext_aae02 := goodIn_r _ [30, 31, 19, 310, 311, 312, 313, 314, 315, 316] (by decide +kernel) (by decide +kernel)
set_option maxRecDepth 20000 in
theorem gX6_passes_Jx35411_hasNext_aae02_f64Jx35411 : GoodIn wsX6_passes (va_wsF RX6 64 RJx35411 ⟨"java/util/Iterator", "hasNext", "()Z"⟩ yJx35411_hasNext_aae02 wsJx35411_hasNext_aae02) := goodIn_app (goodIn_of _ (by decide +kernel)) ggX6_passes_Jx35411_hasNext_aae02
theorem dX6_passes_9 : decode cX6_passes 9 = .ok (.invokeinterface 64 1, 5) := by decide +kernel
theorem dX6_passes_14 : decode cX6_passes 14 = .ok (.ifCond .eq 55, 3) := by decide +kernel
theorem dX6_passes_69 : decode cX6_passes 69 = .ok (.aload_n 0, 1) := by decide +kernel
set_option maxRecDepth 20000 in
theorem ggX6_passes_X6_forgets : GoodIn wsX6_passes wsX6_forgets := goodIn_r _ [45, 46, 47, 48, 49, 50, 44, 51, 1, 2, 8, 9, 10, 11, 12, 13, 14, 15, 16, 17, 18, 19, 20, 21, 22, 23, 24, 25, 26, 27, 28, 29, 30, 31, 32, 33, 34, 35, 36, 37, 38, 39, 40, 52, 53, 54, 55, 56, 57, 58, 59, 60, 61, 276, 277, 278, 279, 280, 281, 282, 283, 284, 285, 286, 287, 288, 289, 290, 291, 292, 293, 294, 295, 310, 311, 312, 313, 314, 315, 316] (by decide +kernel) (by decide +kernel)
set_option maxRecDepth 20000 in
theorem gX6_passes_X6_forgets : GoodIn wsX6_passes (wsV RX6 185 RX6 yX6_forgets wsX6_forgets) := goodIn_app (goodIn_of _ (by decide +kernel)) ggX6_passes_X6_forgets
theorem dX6_passes_70 : decode cX6_passes 70 = .ok (.invokevirtual 185, 3) := by decide +kernel
theorem dX6_passes_73 : decode cX6_passes 73 = .ok (.aload_n 0, 1) := by decide +kernel
theorem dX6_passes_74 : decode cX6_passes 74 = .ok (.getfield 32, 3) := by decide +kernel
theorem dX6_passes_77 : decode cX6_passes 77 = .ok (.iconst (-1), 1) := by decide +kernel
theorem dX6_passes_78 : decode cX6_passes 78 = .ok (.if_icmp .ne 7, 3) := by decide +kernel
theorem dX6_passes_81 : decode cX6_passes 81 = .ok (.aload_n 0, 1) := by decide +kernel
set_option maxRecDepth 20000 in
theorem ggX6_passes_X6_promises : GoodIn wsX6_passes wsX6_promises := goodIn_ca (goodIn_r _ [65, 46, 47, 48, 49, 50, 44, 51, 1, 2, 8, 9, 10, 11, 12, 13, 14, 15, 16, 17, 18, 19, 20, 21, 22, 23, 24, 25, 26, 27, 28, 29, 30, 31, 32, 33, 34, 35, 36, 37, 38, 39, 40, 52, 53, 54, 55, 56, 57, 58, 59, 60, 61, 66, 67, 68, 69, 70, 6, 7, 71, 72, 73, 74, 75, 76, 77, 78, 79, 80, 81, 82, 83, 84, 85, 86, 87, 88, 89, 90, 91, 92, 93, 94, 95, 96, 97, 98, 99, 100, 101, 102, 103, 104, 105, 106, 107, 108, 109, 110, 111, 112, 113, 114, 115, 116, 117, 118, 119, 120, 121, 122, 123, 124, 125, 126, 127, 128, 129, 130, 131, 132, 133, 134, 135, 136, 137, 138, 139, 140, 141, 142, 143, 144, 145, 146, 147, 148, 149, 150, 151, 152, 153, 154, 155, 156, 157, 158, 159, 160, 276, 277, 278, 279, 280, 281, 282, 283, 284, 285, 286, 287, 288, 289, 290, 291, 292, 293, 294, 295, 310, 311, 312, 313, 314, 315, 316, 296, 297, 298, 299, 300, 301, 302, 303, 304, 305, 306, 307, 308, 309] (by decide +kernel) (by decide +kernel)) (goodIn_sub (fun _ h => List.mem_cons_of_mem _ (List.mem_append_left _ (List.mem_append_right _ h))) (by decide +kernel))
set_option maxRecDepth 20000 in
theorem gX6_passes_X6_promises : GoodIn wsX6_passes (wsV RX6 188 RX6 yX6_promises wsX6_promises) := goodIn_app (goodIn_of _ (by decide +kernel)) ggX6_passes_X6_promises
theorem dX6_passes_82 : decode cX6_passes 82 = .ok (.invokevirtual 188, 3) := by decide +kernel
theorem dX6_passes_85 : decode cX6_passes 85 = .ok (.aload_n 0, 1) := by decide +kernel
theorem dX6_passes_86 : decode cX6_passes 86 = .ok (.getfield 179, 3) := by decide +kernel
theorem dX6_passes_89 : decode cX6_passes 89 = .ok (.aload_n 0, 1) := by decide +kernel
theorem dX6_passes_90 : decode cX6_passes 90 = .ok (.getfield 190, 3) := by decide +kernel
theorem dX6_passes_93 : decode cX6_passes 93 = .ok (.if_icmp .lt 45, 3) := by decide +kernel
theorem dX6_passes_96 : decode cX6_passes 96 = .ok (.aload_n 0, 1) := by decide +kernel
theorem dX6_passes_97 : decode cX6_passes 97 = .ok (.getfield 20, 3) := by decide +kernel
theorem dX6_passes_100 : decode cX6_passes 100 = .ok (.invokevirtual 60, 3) := by decide +kernel
theorem dX6_passes_103 : decode cX6_passes 103 = .ok (.astore_n 1, 1) := by decide +kernel
theorem dX6_passes_104 : decode cX6_passes 104 = .ok (.aload_n 1, 1) := by decide +kernel
theorem dX6_passes_105 : decode cX6_passes 105 = .ok (.invokeinterface 64 1, 5) := by decide +kernel
theorem dX6_passes_110 : decode cX6_passes 110 = .ok (.ifCond .eq 28, 3) := by decide +kernel
theorem dX6_passes_138 : decode cX6_passes 138 = .ok (.aload_n 0, 1) := by decide +kernel
theorem dX6_passes_139 : decode cX6_passes 139 = .ok (.dup, 1) := by decide +kernel
theorem dX6_passes_140 : decode cX6_passes 140 = .ok (.getfield 179, 3) := by decide +kernel
theorem dX6_passes_143 : decode cX6_passes 143 = .ok (.iconst 1, 1) := by decide +kernel
theorem dX6_passes_144 : decode cX6_passes 144 = .ok (.iadd, 1) := by decide +kernel
theorem dX6_passes_145 : decode cX6_passes 145 = .ok (.putfield 179, 3) := by decide +kernel
theorem dX6_passes_148 : decode cX6_passes 148 = .ok (.return_, 1) := by decide +kernel
set_option maxHeartbeats 4000000 in
set_option maxRecDepth 100000 in
theorem c_X6_passes (l : Launch) (hst : l.stackTraces = false) (em kw kb : Nat) (D : va_G) (mm : Nat) (t5 : Int32) (c2 : Nat) (ps2 : Nat) (pr : Nat) (l2 : Nat) (cP : ClassId) (r0 : Nat) (cR : ClassId) (r1 : Nat) (hn5 : ¬ t5 < 0) (sz : Nat) : Met l yX6_passes wsX6_passes ({ frames := 5, cells := 42, slots := 168, locals := 100 }) (va_Pc [.ref mm] (tw_Pre em kw kb D sz [(mm, .inr (10, [.int 0, .int 9, .int t5, .int 99, .ref c2, .ref ps2, .ref pr, .int 0, .int 0, .int ((-1)), .ref l2, .long 0])), (c2, .inr (3, [.int 0, .ref em, .int 0])), (ps2, .inr (3, [.int 0, .ref em, .int 0])), (pr, .inl (cP, 2, .inr (.inr (.inr (.inr ((tw_two r0 r1))))))), (r0, .inl (cR, 24, .inr (.inr (.inr (.inr ((fun _ => none))))))), (r1, .inl (cR, 24, .inr (.inr (.inr (.inr ((fun _ => none)))))))] [(cP, .array (.object "TowerliftryModel$Car")), (cR, .object "TowerliftryModel$Car")])) (va_Qv (fun (u : tw_U) => u = ([(mm, .inr (10, [.int 0, .int 9, .int (t5 + (1 : Int32)), .int 99, .ref c2, .ref ps2, .ref pr, .int 0, .int 0, .int ((-1)), .ref l2, .long 0])), (c2, .inr (3, [.int 0, .ref em, .int 0])), (ps2, .inr (3, [.int 0, .ref em, .int 0])), (pr, .inl (cP, 2, .inr (.inr (.inr (.inr ((tw_two r0 r1))))))), (r0, .inl (cR, 24, .inr (.inr (.inr (.inr ((fun _ => none))))))), (r1, .inl (cR, 24, .inr (.inr (.inr (.inr ((fun _ => none)))))))], [])) (tw_B D (va_A [(mm, .inr (10, [.int 0, .int 9, .int t5, .int 99, .ref c2, .ref ps2, .ref pr, .int 0, .int 0, .int ((-1)), .ref l2, .long 0])), (c2, .inr (3, [.int 0, .ref em, .int 0])), (ps2, .inr (3, [.int 0, .ref em, .int 0])), (pr, .inl (cP, 2, .inr (.inr (.inr (.inr ((tw_two r0 r1))))))), (r0, .inl (cR, 24, .inr (.inr (.inr (.inr ((fun _ => none))))))), (r1, .inl (cR, 24, .inr (.inr (.inr (.inr ((fun _ => none)))))))] sz)) (va_A [(mm, .inr (10, [.int 0, .int 9, .int t5, .int 99, .ref c2, .ref ps2, .ref pr, .int 0, .int 0, .int ((-1)), .ref l2, .long 0])), (c2, .inr (3, [.int 0, .ref em, .int 0])), (ps2, .inr (3, [.int 0, .ref em, .int 0])), (pr, .inl (cP, 2, .inr (.inr (.inr (.inr ((tw_two r0 r1))))))), (r0, .inl (cR, 24, .inr (.inr (.inr (.inr ((fun _ => none))))))), (r1, .inl (cR, 24, .inr (.inr (.inr (.inr ((fun _ => none)))))))] sz)) 42 168 (va_A [(mm, .inr (10, [.int 0, .int 9, .int t5, .int 99, .ref c2, .ref ps2, .ref pr, .int 0, .int 0, .int ((-1)), .ref l2, .long 0])), (c2, .inr (3, [.int 0, .ref em, .int 0])), (ps2, .inr (3, [.int 0, .ref em, .int 0])), (pr, .inl (cP, 2, .inr (.inr (.inr (.inr ((tw_two r0 r1))))))), (r0, .inl (cR, 24, .inr (.inr (.inr (.inr ((fun _ => none))))))), (r1, .inl (cR, 24, .inr (.inr (.inr (.inr ((fun _ => none)))))))] sz) := by
  refine Met.ofW (cc := cX6_passes) (maxL := 3) (ret := none) (by decide) rfl ?_
  intro p e s m args below meth c s₁ B hml hv
  obtain ⟨rfl, hsz, hP, hK, hD0, hF⟩ := hv
  have hx := B.exec
  have hb := B.bytes
  have hr := B.returns
  have hts := atoms_spec (ws := wsX6_passes) B.pre
  have hown : s.vm.findClass RX6 = some m.cls := findClass_of_methodNamed B.named
  have hlocks := B.notSynchronized
  have hiRX6 : ∀ w ∈ u_ws RX6 TX6 12, w ∈ wsX6_passes := by decide +kernel
  subst hsz
  have hD := hD0.self (sz := s.heap.size)
  generalize hAe : va_A [(mm, .inr (10, [.int 0, .int 9, .int t5, .int 99, .ref c2, .ref ps2, .ref pr, .int 0, .int 0, .int ((-1)), .ref l2, .long 0])), (c2, .inr (3, [.int 0, .ref em, .int 0])), (ps2, .inr (3, [.int 0, .ref em, .int 0])), (pr, .inl (cP, 2, .inr (.inr (.inr (.inr ((tw_two r0 r1))))))), (r0, .inl (cR, 24, .inr (.inr (.inr (.inr ((fun _ => none))))))), (r1, .inl (cR, 24, .inr (.inr (.inr (.inr ((fun _ => none)))))))] s.heap.size = A at hD hF ⊢
  have hA : ∀ q : Nat, s.heap.size ≤ q → A q := fun q h => by rw [← hAe]; exact Or.inr h
  have hS : va_S A s.heap s.heap [] := va_S.rf
  have hP : va_P D vwCl [(mm, .inr (10, [.int 0, .int 9, .int t5, .int 99, .ref c2, .ref ps2, .ref pr, .int 0, .int 0, .int ((-1)), .ref l2, .long 0])), (c2, .inr (3, [.int 0, .ref em, .int 0])), (ps2, .inr (3, [.int 0, .ref em, .int 0])), (pr, .inl (cP, 2, .inr (.inr (.inr (.inr ((tw_two r0 r1))))))), (r0, .inl (cR, 24, .inr (.inr (.inr (.inr ((fun _ => none))))))), (r1, .inl (cR, 24, .inr (.inr (.inr (.inr ((fun _ => none)))))))] s.heap := hP
  have hl := lv_entry ([.ref mm]) (n := 3) (Nat.le_of_ble_eq_true rfl)
  rw [lg_entry_eq]
  generalize (lg_sl ([.ref mm]) ++ List.replicate (3 - (lg_sl ([.ref mm])).length) Slot.unset).toArray = ls at hl ⊢
  have hl : lv_has ls 3 [(0, .ref mm)] := hl
  refine lv_aload_n hx hb dX6_passes_0 rfl (lv_at hl 0 rfl) ?_
  refine va_get (D := D) (ci := 10) (v := .ref ps2) (C := RX6) (T := TX6) (N := 12) hx hb hts hiRX6 hown hK hP 0 rfl rfl 5 (by decide) (hts (.fieldLink RX6 24 "TowerliftryModel" "persons" "Ljava/util/ArrayList;") (by decide +kernel)) (fun _ h9 => h9) rfl dX6_passes_1 ?_
  have hPc := hP.sub (ws' := [(ps2, .inr (3, [.int 0, .ref em, .int 0]))]) [2] rfl
  have hDc := hD.sub (ws' := [(ps2, .inr (3, [.int 0, .ref em, .int 0]))]) [2] (by decide) rfl
  have hKc := hK.sub (tys' := []) [] rfl
  have hFc := va_free (wc := [(ps2, .inr (3, [.int 0, .ref em, .int 0]))]) hD hS hA [2] rfl
  refine va_callq (va_runV (As := []) (rest := []) ⟨hx, hb, hml, hown, hts⟩ (c_Jx4a65c_iterator_32c93 l hst em kw kb D ps2 em _) (cwV 0 hts gX6_passes_Jx4a65c_iterator_32c93 rfl rfl rfl (by decide +kernel) ⟨(Nat.le_of_ble_eq_true rfl), (Nat.le_of_ble_eq_true rfl)⟩) (tw_preV hF hS hFc hPc hKc hDc (va_recv hKc hPc (ci := 3) (q0 := 0) rfl rfl)) rfl rfl hl.1 rfl (lv_room (Nat.le_of_ble_eq_true rfl)) dX6_passes_4 ⟨(Nat.le_of_ble_eq_true rfl), (Nat.le_of_ble_eq_true rfl)⟩) hS (fun q _ h => hFc q h) hFc (fun r u t H locs ht hvm hw hB hz1 hk1 hS => ?_)
  obtain ⟨q_1, rfl, rfl⟩ := hw
  obtain ⟨hP, hD, hK⟩ := tw_join (wr := [(mm, .inr (10, [.int 0, .int 9, .int t5, .int 99, .ref c2, .ref ps2, .ref pr, .int 0, .int 0, .int ((-1)), .ref l2, .long 0])), (c2, .inr (3, [.int 0, .ref em, .int 0])), (pr, .inl (cP, 2, .inr (.inr (.inr (.inr ((tw_two r0 r1))))))), (r0, .inl (cR, 24, .inr (.inr (.inr (.inr ((fun _ => none))))))), (r1, .inl (cR, 24, .inr (.inr (.inr (.inr ((fun _ => none)))))))]) hP hD hK [2] [0, 1, 3, 4, 5] rfl rfl (by decide) (by decide) hk1 hFc ht hvm hB
  have hP : va_P D vwCl [(mm, .inr (10, [.int 0, .int 9, .int t5, .int 99, .ref c2, .ref ps2, .ref pr, .int 0, .int 0, .int ((-1)), .ref l2, .long 0])), (c2, .inr (3, [.int 0, .ref em, .int 0])), (pr, .inl (cP, 2, .inr (.inr (.inr (.inr ((tw_two r0 r1))))))), (r0, .inl (cR, 24, .inr (.inr (.inr (.inr ((fun _ => none))))))), (r1, .inl (cR, 24, .inr (.inr (.inr (.inr ((fun _ => none))))))), (q_1, .inr (2, [.int 0, .int ((-1)), .int 0, .ref ps2])), (ps2, .inr (3, [.int 0, .ref em, .int 0]))] _ := hP
  have hD : va_D A [(mm, .inr (10, [.int 0, .int 9, .int t5, .int 99, .ref c2, .ref ps2, .ref pr, .int 0, .int 0, .int ((-1)), .ref l2, .long 0])), (c2, .inr (3, [.int 0, .ref em, .int 0])), (pr, .inl (cP, 2, .inr (.inr (.inr (.inr ((tw_two r0 r1))))))), (r0, .inl (cR, 24, .inr (.inr (.inr (.inr ((fun _ => none))))))), (r1, .inl (cR, 24, .inr (.inr (.inr (.inr ((fun _ => none))))))), (q_1, .inr (2, [.int 0, .int ((-1)), .int 0, .ref ps2])), (ps2, .inr (3, [.int 0, .ref em, .int 0]))] := hD
  have hK : va_K D vwCl [(cP, .array (.object "TowerliftryModel$Car")), (cR, .object "TowerliftryModel$Car")] s := hK
  refine W.widen (k := 1) (n := 4) (Nat.le_refl _) (Nat.le_refl _) ?_
  refine W.eq (g2 := F0 m 7 ls [.ref q_1]) rfl ?_
  refine lv_astore_n (lv' := [(1, .ref q_1), (0, .ref mm)]) hx hb dX6_passes_7 rfl hl (by decide) rfl (fun ls hl => ?_)
  refine lv_aload_n hx hb dX6_passes_8 rfl (lv_at hl 0 rfl) ?_
  have hPc := hP.sub (ws' := [(q_1, .inr (2, [.int 0, .int ((-1)), .int 0, .ref ps2])), (ps2, .inr (3, [.int 0, .ref em, .int 0]))]) [5, 6] rfl
  have hDc := hD.sub (ws' := [(q_1, .inr (2, [.int 0, .int ((-1)), .int 0, .ref ps2])), (ps2, .inr (3, [.int 0, .ref em, .int 0]))]) [5, 6] (by decide) rfl
  have hKc := hK.sub (tys' := []) [] rfl
  have hFc := va_free (wc := [(q_1, .inr (2, [.int 0, .int ((-1)), .int 0, .ref ps2])), (ps2, .inr (3, [.int 0, .ref em, .int 0]))]) hD hS hA [5, 6] rfl
  refine va_callFi (va_runF (hKc.1 2 _ rfl).2 (As := []) (rest := []) ⟨hx, hb, hml, hown, hts⟩ (c_Jx35411_hasNext_aae02 l hst em kw kb D q_1 ps2 em _) (va_cwF 0 hts gX6_passes_Jx35411_hasNext_aae02_f64Jx35411 rfl rfl rfl (tw_fw hF) (by decide +kernel) ⟨(Nat.le_of_ble_eq_true rfl), (Nat.le_of_ble_eq_true rfl)⟩) (tw_preV hF hS hFc hPc hKc hDc (va_recv hKc hPc (ci := 2) (q0 := 0) rfl rfl)) rfl rfl hl.1 rfl (lv_room (Nat.le_of_ble_eq_true rfl)) dX6_passes_9 ⟨(Nat.le_of_ble_eq_true rfl), (Nat.le_of_ble_eq_true rfl)⟩) hS (fun q _ h => hFc q h) hFc (fun r u t H locs ht hvm hw hB hz1 hk1 hS => ?_)
  obtain ⟨rfl, rfl⟩ := hw
  obtain ⟨hP, hD, hK⟩ := tw_join (wr := [(mm, .inr (10, [.int 0, .int 9, .int t5, .int 99, .ref c2, .ref ps2, .ref pr, .int 0, .int 0, .int ((-1)), .ref l2, .long 0])), (c2, .inr (3, [.int 0, .ref em, .int 0])), (pr, .inl (cP, 2, .inr (.inr (.inr (.inr ((tw_two r0 r1))))))), (r0, .inl (cR, 24, .inr (.inr (.inr (.inr ((fun _ => none))))))), (r1, .inl (cR, 24, .inr (.inr (.inr (.inr ((fun _ => none)))))))]) hP hD hK [5, 6] [0, 1, 2, 3, 4] rfl rfl (by decide) (by decide) hk1 hFc ht hvm hB
  have hP : va_P D vwCl [(mm, .inr (10, [.int 0, .int 9, .int t5, .int 99, .ref c2, .ref ps2, .ref pr, .int 0, .int 0, .int ((-1)), .ref l2, .long 0])), (c2, .inr (3, [.int 0, .ref em, .int 0])), (pr, .inl (cP, 2, .inr (.inr (.inr (.inr ((tw_two r0 r1))))))), (r0, .inl (cR, 24, .inr (.inr (.inr (.inr ((fun _ => none))))))), (r1, .inl (cR, 24, .inr (.inr (.inr (.inr ((fun _ => none))))))), (q_1, .inr (2, [.int 0, .int ((-1)), .int 0, .ref ps2])), (ps2, .inr (3, [.int 0, .ref em, .int 0]))] _ := hP
  have hD : va_D A [(mm, .inr (10, [.int 0, .int 9, .int t5, .int 99, .ref c2, .ref ps2, .ref pr, .int 0, .int 0, .int ((-1)), .ref l2, .long 0])), (c2, .inr (3, [.int 0, .ref em, .int 0])), (pr, .inl (cP, 2, .inr (.inr (.inr (.inr ((tw_two r0 r1))))))), (r0, .inl (cR, 24, .inr (.inr (.inr (.inr ((fun _ => none))))))), (r1, .inl (cR, 24, .inr (.inr (.inr (.inr ((fun _ => none))))))), (q_1, .inr (2, [.int 0, .int ((-1)), .int 0, .ref ps2])), (ps2, .inr (3, [.int 0, .ref em, .int 0]))] := hD
  have hK : va_K D vwCl [(cP, .array (.object "TowerliftryModel$Car")), (cR, .object "TowerliftryModel$Car")] s := hK
  refine W.widen (k := 1) (n := 4) (Nat.le_refl _) (Nat.le_refl _) ?_
  refine W.eq (g2 := F0 m 14 ls [.int 0]) rfl ?_
  refine lv_if_eq (tgt := 69) hx hb dX6_passes_14 (by decide) (fun c9 => ?_) (fun c9 => absurd c9 (by decide))
  refine lv_aload_n hx hb dX6_passes_69 rfl (lv_at hl 1 rfl) ?_
  have hPc := hP.sub (ws' := [(mm, .inr (10, [.int 0, .int 9, .int t5, .int 99, .ref c2, .ref ps2, .ref pr, .int 0, .int 0, .int ((-1)), .ref l2, .long 0])), (ps2, .inr (3, [.int 0, .ref em, .int 0])), (pr, .inl (cP, 2, .inr (.inr (.inr (.inr ((tw_two r0 r1))))))), (r0, .inl (cR, 24, .inr (.inr (.inr (.inr ((fun _ => none))))))), (r1, .inl (cR, 24, .inr (.inr (.inr (.inr ((fun _ => none)))))))]) [0, 6, 2, 3, 4] rfl
  have hDc := hD.sub (ws' := [(mm, .inr (10, [.int 0, .int 9, .int t5, .int 99, .ref c2, .ref ps2, .ref pr, .int 0, .int 0, .int ((-1)), .ref l2, .long 0])), (ps2, .inr (3, [.int 0, .ref em, .int 0])), (pr, .inl (cP, 2, .inr (.inr (.inr (.inr ((tw_two r0 r1))))))), (r0, .inl (cR, 24, .inr (.inr (.inr (.inr ((fun _ => none))))))), (r1, .inl (cR, 24, .inr (.inr (.inr (.inr ((fun _ => none)))))))]) [0, 6, 2, 3, 4] (by decide) rfl
  have hKc := hK.sub (tys' := [(cP, .array (.object "TowerliftryModel$Car")), (cR, .object "TowerliftryModel$Car")]) [0, 1] rfl
  have hFc := va_free (wc := [(mm, .inr (10, [.int 0, .int 9, .int t5, .int 99, .ref c2, .ref ps2, .ref pr, .int 0, .int 0, .int ((-1)), .ref l2, .long 0])), (ps2, .inr (3, [.int 0, .ref em, .int 0])), (pr, .inl (cP, 2, .inr (.inr (.inr (.inr ((tw_two r0 r1))))))), (r0, .inl (cR, 24, .inr (.inr (.inr (.inr ((fun _ => none))))))), (r1, .inl (cR, 24, .inr (.inr (.inr (.inr ((fun _ => none)))))))]) hD hS hA [0, 6, 2, 3, 4] rfl
  refine va_callv (va_runV (As := []) (rest := []) ⟨hx, hb, hml, hown, hts⟩ (c_X6_forgets l hst em kw kb D mm t5 c2 ps2 pr l2 cP r0 cR r1 _) (cwV 0 hts gX6_passes_X6_forgets rfl rfl rfl (by decide +kernel) ⟨(Nat.le_of_ble_eq_true rfl), (Nat.le_of_ble_eq_true rfl)⟩) (tw_preV hF hS hFc hPc hKc hDc (va_recv hKc hPc (ci := 10) (q0 := 0) rfl rfl)) rfl rfl hl.1 rfl (lv_room (Nat.le_of_ble_eq_true rfl)) dX6_passes_70 ⟨(Nat.le_of_ble_eq_true rfl), (Nat.le_of_ble_eq_true rfl)⟩) hS (fun q _ h => hFc q h) hFc (fun u t H locs ht hvm hw hB hz1 hk1 hS => ?_)
  subst hw
  obtain ⟨hP, hD, hK⟩ := tw_join (wr := [(c2, .inr (3, [.int 0, .ref em, .int 0])), (q_1, .inr (2, [.int 0, .int ((-1)), .int 0, .ref ps2]))]) hP hD hK [0, 6, 2, 3, 4] [1, 5] rfl rfl (by decide) (by decide) hk1 hFc ht hvm hB
  have hP : va_P D vwCl [(c2, .inr (3, [.int 0, .ref em, .int 0])), (q_1, .inr (2, [.int 0, .int ((-1)), .int 0, .ref ps2])), (mm, .inr (10, [.int 0, .int 9, .int t5, .int 99, .ref c2, .ref ps2, .ref pr, .int 0, .int 0, .int ((-1)), .ref l2, .long 0])), (ps2, .inr (3, [.int 0, .ref em, .int 0])), (pr, .inl (cP, 2, .inr (.inr (.inr (.inr ((tw_two r0 r1))))))), (r0, .inl (cR, 24, .inr (.inr (.inr (.inr ((fun _ => none))))))), (r1, .inl (cR, 24, .inr (.inr (.inr (.inr ((fun _ => none)))))))] _ := hP
  have hD : va_D A [(c2, .inr (3, [.int 0, .ref em, .int 0])), (q_1, .inr (2, [.int 0, .int ((-1)), .int 0, .ref ps2])), (mm, .inr (10, [.int 0, .int 9, .int t5, .int 99, .ref c2, .ref ps2, .ref pr, .int 0, .int 0, .int ((-1)), .ref l2, .long 0])), (ps2, .inr (3, [.int 0, .ref em, .int 0])), (pr, .inl (cP, 2, .inr (.inr (.inr (.inr ((tw_two r0 r1))))))), (r0, .inl (cR, 24, .inr (.inr (.inr (.inr ((fun _ => none))))))), (r1, .inl (cR, 24, .inr (.inr (.inr (.inr ((fun _ => none)))))))] := hD
  have hK : va_K D vwCl [(cP, .array (.object "TowerliftryModel$Car")), (cR, .object "TowerliftryModel$Car")] s := hK
  refine W.widen (k := 21) (n := 84) (Nat.le_refl _) (Nat.le_refl _) ?_
  refine W.eq (g2 := F0 m 73 ls []) rfl ?_
  refine lv_aload_n hx hb dX6_passes_73 rfl (lv_at hl 1 rfl) ?_
  refine va_get (D := D) (ci := 10) (v := .int ((-1))) (C := RX6) (T := TX6) (N := 12) hx hb hts hiRX6 hown hK hP 2 rfl rfl 9 (by decide) (hts (.fieldLink RX6 32 "TowerliftryModel" "fire" "I") (by decide +kernel)) (fun _ h9 => h9) rfl dX6_passes_74 ?_
  refine lv_iconst (v := (-1)) hx hb dX6_passes_77 (by decide) ?_
  refine lv_icmp_ne (tgt := 85) hx hb dX6_passes_78 (by decide) (fun c9 => absurd c9 (by decide)) (fun c9 => ?_)
  refine lv_aload_n hx hb dX6_passes_81 rfl (lv_at hl 1 rfl) ?_
  have hPc := hP.sub (ws' := [(mm, .inr (10, [.int 0, .int 9, .int t5, .int 99, .ref c2, .ref ps2, .ref pr, .int 0, .int 0, .int ((-1)), .ref l2, .long 0])), (ps2, .inr (3, [.int 0, .ref em, .int 0])), (pr, .inl (cP, 2, .inr (.inr (.inr (.inr ((tw_two r0 r1))))))), (r0, .inl (cR, 24, .inr (.inr (.inr (.inr ((fun _ => none))))))), (r1, .inl (cR, 24, .inr (.inr (.inr (.inr ((fun _ => none)))))))]) [2, 3, 4, 5, 6] rfl
  have hDc := hD.sub (ws' := [(mm, .inr (10, [.int 0, .int 9, .int t5, .int 99, .ref c2, .ref ps2, .ref pr, .int 0, .int 0, .int ((-1)), .ref l2, .long 0])), (ps2, .inr (3, [.int 0, .ref em, .int 0])), (pr, .inl (cP, 2, .inr (.inr (.inr (.inr ((tw_two r0 r1))))))), (r0, .inl (cR, 24, .inr (.inr (.inr (.inr ((fun _ => none))))))), (r1, .inl (cR, 24, .inr (.inr (.inr (.inr ((fun _ => none)))))))]) [2, 3, 4, 5, 6] (by decide) rfl
  have hKc := hK.sub (tys' := [(cP, .array (.object "TowerliftryModel$Car")), (cR, .object "TowerliftryModel$Car")]) [0, 1] rfl
  have hFc := va_free (wc := [(mm, .inr (10, [.int 0, .int 9, .int t5, .int 99, .ref c2, .ref ps2, .ref pr, .int 0, .int 0, .int ((-1)), .ref l2, .long 0])), (ps2, .inr (3, [.int 0, .ref em, .int 0])), (pr, .inl (cP, 2, .inr (.inr (.inr (.inr ((tw_two r0 r1))))))), (r0, .inl (cR, 24, .inr (.inr (.inr (.inr ((fun _ => none))))))), (r1, .inl (cR, 24, .inr (.inr (.inr (.inr ((fun _ => none)))))))]) hD hS hA [2, 3, 4, 5, 6] rfl
  refine va_callv (va_runV (As := []) (rest := []) ⟨hx, hb, hml, hown, hts⟩ (c_X6_promises l hst em kw kb D mm t5 c2 ps2 pr l2 cP r0 cR r1 _) (cwV 0 hts gX6_passes_X6_promises rfl rfl rfl (by decide +kernel) ⟨(Nat.le_of_ble_eq_true rfl), (Nat.le_of_ble_eq_true rfl)⟩) (tw_preV hF hS hFc hPc hKc hDc (va_recv hKc hPc (ci := 10) (q0 := 0) rfl rfl)) rfl rfl hl.1 rfl (lv_room (Nat.le_of_ble_eq_true rfl)) dX6_passes_82 ⟨(Nat.le_of_ble_eq_true rfl), (Nat.le_of_ble_eq_true rfl)⟩) hS (fun q _ h => hFc q h) hFc (fun u t H locs ht hvm hw hB hz1 hk1 hS => ?_)
  subst hw
  obtain ⟨hP, hD, hK⟩ := tw_join (wr := [(c2, .inr (3, [.int 0, .ref em, .int 0])), (q_1, .inr (2, [.int 0, .int ((-1)), .int 0, .ref ps2]))]) hP hD hK [2, 3, 4, 5, 6] [0, 1] rfl rfl (by decide) (by decide) hk1 hFc ht hvm hB
  have hP : va_P D vwCl [(c2, .inr (3, [.int 0, .ref em, .int 0])), (q_1, .inr (2, [.int 0, .int ((-1)), .int 0, .ref ps2])), (mm, .inr (10, [.int 0, .int 9, .int t5, .int 99, .ref c2, .ref ps2, .ref pr, .int 0, .int 0, .int ((-1)), .ref l2, .long 0])), (ps2, .inr (3, [.int 0, .ref em, .int 0])), (pr, .inl (cP, 2, .inr (.inr (.inr (.inr ((tw_two r0 r1))))))), (r0, .inl (cR, 24, .inr (.inr (.inr (.inr ((fun _ => none))))))), (r1, .inl (cR, 24, .inr (.inr (.inr (.inr ((fun _ => none)))))))] _ := hP
  have hD : va_D A [(c2, .inr (3, [.int 0, .ref em, .int 0])), (q_1, .inr (2, [.int 0, .int ((-1)), .int 0, .ref ps2])), (mm, .inr (10, [.int 0, .int 9, .int t5, .int 99, .ref c2, .ref ps2, .ref pr, .int 0, .int 0, .int ((-1)), .ref l2, .long 0])), (ps2, .inr (3, [.int 0, .ref em, .int 0])), (pr, .inl (cP, 2, .inr (.inr (.inr (.inr ((tw_two r0 r1))))))), (r0, .inl (cR, 24, .inr (.inr (.inr (.inr ((fun _ => none))))))), (r1, .inl (cR, 24, .inr (.inr (.inr (.inr ((fun _ => none)))))))] := hD
  have hK : va_K D vwCl [(cP, .array (.object "TowerliftryModel$Car")), (cR, .object "TowerliftryModel$Car")] s := hK
  refine W.widen (k := 41) (n := 164) (Nat.le_refl _) (Nat.le_refl _) ?_
  refine W.eq (g2 := F0 m 85 ls []) rfl ?_
  refine lv_aload_n hx hb dX6_passes_85 rfl (lv_at hl 1 rfl) ?_
  refine va_get (D := D) (ci := 10) (v := .int t5) (C := RX6) (T := TX6) (N := 12) hx hb hts hiRX6 hown hK hP 2 rfl rfl 2 (by decide) (hts (.fieldLink RX6 179 "TowerliftryModel" "tick" "I") (by decide +kernel)) (fun _ h9 => h9) rfl dX6_passes_86 ?_
  refine lv_aload_n hx hb dX6_passes_89 rfl (lv_at hl 1 rfl) ?_
  refine va_get (D := D) (ci := 10) (v := .int 0) (C := RX6) (T := TX6) (N := 12) hx hb hts hiRX6 hown hK hP 2 rfl rfl 7 (by decide) (hts (.fieldLink RX6 190 "TowerliftryModel" "stillTo" "I") (by decide +kernel)) (fun _ h9 => h9) rfl dX6_passes_90 ?_
  refine lv_icmp_lt (tgt := 138) hx hb dX6_passes_93 (by decide) (fun c_2 => absurd c_2 hn5) (fun c_2 => ?_)
  refine lv_aload_n hx hb dX6_passes_96 rfl (lv_at hl 1 rfl) ?_
  refine va_get (D := D) (ci := 10) (v := .ref c2) (C := RX6) (T := TX6) (N := 12) hx hb hts hiRX6 hown hK hP 2 rfl rfl 4 (by decide) (hts (.fieldLink RX6 20 "TowerliftryModel" "cars" "Ljava/util/ArrayList;") (by decide +kernel)) (fun _ h9 => h9) rfl dX6_passes_97 ?_
  have hPc := hP.sub (ws' := [(c2, .inr (3, [.int 0, .ref em, .int 0]))]) [0] rfl
  have hDc := hD.sub (ws' := [(c2, .inr (3, [.int 0, .ref em, .int 0]))]) [0] (by decide) rfl
  have hKc := hK.sub (tys' := []) [] rfl
  have hFc := va_free (wc := [(c2, .inr (3, [.int 0, .ref em, .int 0]))]) hD hS hA [0] rfl
  refine va_callq (va_runV (As := []) (rest := []) ⟨hx, hb, hml, hown, hts⟩ (c_Jx4a65c_iterator_32c93 l hst em kw kb D c2 em _) (cwV 0 hts gX6_passes_Jx4a65c_iterator_32c93 rfl rfl rfl (by decide +kernel) ⟨(Nat.le_of_ble_eq_true rfl), (Nat.le_of_ble_eq_true rfl)⟩) (tw_preV hF hS hFc hPc hKc hDc (va_recv hKc hPc (ci := 3) (q0 := 0) rfl rfl)) rfl rfl hl.1 rfl (lv_room (Nat.le_of_ble_eq_true rfl)) dX6_passes_100 ⟨(Nat.le_of_ble_eq_true rfl), (Nat.le_of_ble_eq_true rfl)⟩) hS (fun q _ h => hFc q h) hFc (fun r u t H locs ht hvm hw hB hz1 hk1 hS => ?_)
  obtain ⟨q_3, rfl, rfl⟩ := hw
  obtain ⟨hP, hD, hK⟩ := tw_join (wr := [(q_1, .inr (2, [.int 0, .int ((-1)), .int 0, .ref ps2])), (mm, .inr (10, [.int 0, .int 9, .int t5, .int 99, .ref c2, .ref ps2, .ref pr, .int 0, .int 0, .int ((-1)), .ref l2, .long 0])), (ps2, .inr (3, [.int 0, .ref em, .int 0])), (pr, .inl (cP, 2, .inr (.inr (.inr (.inr ((tw_two r0 r1))))))), (r0, .inl (cR, 24, .inr (.inr (.inr (.inr ((fun _ => none))))))), (r1, .inl (cR, 24, .inr (.inr (.inr (.inr ((fun _ => none)))))))]) hP hD hK [0] [1, 2, 3, 4, 5, 6] rfl rfl (by decide) (by decide) hk1 hFc ht hvm hB
  have hP : va_P D vwCl [(q_1, .inr (2, [.int 0, .int ((-1)), .int 0, .ref ps2])), (mm, .inr (10, [.int 0, .int 9, .int t5, .int 99, .ref c2, .ref ps2, .ref pr, .int 0, .int 0, .int ((-1)), .ref l2, .long 0])), (ps2, .inr (3, [.int 0, .ref em, .int 0])), (pr, .inl (cP, 2, .inr (.inr (.inr (.inr ((tw_two r0 r1))))))), (r0, .inl (cR, 24, .inr (.inr (.inr (.inr ((fun _ => none))))))), (r1, .inl (cR, 24, .inr (.inr (.inr (.inr ((fun _ => none))))))), (q_3, .inr (2, [.int 0, .int ((-1)), .int 0, .ref c2])), (c2, .inr (3, [.int 0, .ref em, .int 0]))] _ := hP
  have hD : va_D A [(q_1, .inr (2, [.int 0, .int ((-1)), .int 0, .ref ps2])), (mm, .inr (10, [.int 0, .int 9, .int t5, .int 99, .ref c2, .ref ps2, .ref pr, .int 0, .int 0, .int ((-1)), .ref l2, .long 0])), (ps2, .inr (3, [.int 0, .ref em, .int 0])), (pr, .inl (cP, 2, .inr (.inr (.inr (.inr ((tw_two r0 r1))))))), (r0, .inl (cR, 24, .inr (.inr (.inr (.inr ((fun _ => none))))))), (r1, .inl (cR, 24, .inr (.inr (.inr (.inr ((fun _ => none))))))), (q_3, .inr (2, [.int 0, .int ((-1)), .int 0, .ref c2])), (c2, .inr (3, [.int 0, .ref em, .int 0]))] := hD
  have hK : va_K D vwCl [(cP, .array (.object "TowerliftryModel$Car")), (cR, .object "TowerliftryModel$Car")] s := hK
  refine W.widen (k := 42) (n := 168) (Nat.le_refl _) (Nat.le_refl _) ?_
  refine W.eq (g2 := F0 m 103 ls [.ref q_3]) rfl ?_
  refine lv_astore_n (lv' := [(1, .ref q_3), (0, .ref mm)]) hx hb dX6_passes_103 rfl hl (by decide) rfl (fun ls hl => ?_)
  refine lv_aload_n hx hb dX6_passes_104 rfl (lv_at hl 0 rfl) ?_
  have hPc := hP.sub (ws' := [(q_3, .inr (2, [.int 0, .int ((-1)), .int 0, .ref c2])), (c2, .inr (3, [.int 0, .ref em, .int 0]))]) [6, 7] rfl
  have hDc := hD.sub (ws' := [(q_3, .inr (2, [.int 0, .int ((-1)), .int 0, .ref c2])), (c2, .inr (3, [.int 0, .ref em, .int 0]))]) [6, 7] (by decide) rfl
  have hKc := hK.sub (tys' := []) [] rfl
  have hFc := va_free (wc := [(q_3, .inr (2, [.int 0, .int ((-1)), .int 0, .ref c2])), (c2, .inr (3, [.int 0, .ref em, .int 0]))]) hD hS hA [6, 7] rfl
  refine va_callFi (va_runF (hKc.1 2 _ rfl).2 (As := []) (rest := []) ⟨hx, hb, hml, hown, hts⟩ (c_Jx35411_hasNext_aae02 l hst em kw kb D q_3 c2 em _) (va_cwF 0 hts gX6_passes_Jx35411_hasNext_aae02_f64Jx35411 rfl rfl rfl (tw_fw hF) (by decide +kernel) ⟨(Nat.le_of_ble_eq_true rfl), (Nat.le_of_ble_eq_true rfl)⟩) (tw_preV hF hS hFc hPc hKc hDc (va_recv hKc hPc (ci := 2) (q0 := 0) rfl rfl)) rfl rfl hl.1 rfl (lv_room (Nat.le_of_ble_eq_true rfl)) dX6_passes_105 ⟨(Nat.le_of_ble_eq_true rfl), (Nat.le_of_ble_eq_true rfl)⟩) hS (fun q _ h => hFc q h) hFc (fun r u t H locs ht hvm hw hB hz1 hk1 hS => ?_)
  obtain ⟨rfl, rfl⟩ := hw
  obtain ⟨hP, hD, hK⟩ := tw_join (wr := [(q_1, .inr (2, [.int 0, .int ((-1)), .int 0, .ref ps2])), (mm, .inr (10, [.int 0, .int 9, .int t5, .int 99, .ref c2, .ref ps2, .ref pr, .int 0, .int 0, .int ((-1)), .ref l2, .long 0])), (ps2, .inr (3, [.int 0, .ref em, .int 0])), (pr, .inl (cP, 2, .inr (.inr (.inr (.inr ((tw_two r0 r1))))))), (r0, .inl (cR, 24, .inr (.inr (.inr (.inr ((fun _ => none))))))), (r1, .inl (cR, 24, .inr (.inr (.inr (.inr ((fun _ => none)))))))]) hP hD hK [6, 7] [0, 1, 2, 3, 4, 5] rfl rfl (by decide) (by decide) hk1 hFc ht hvm hB
  have hP : va_P D vwCl [(q_1, .inr (2, [.int 0, .int ((-1)), .int 0, .ref ps2])), (mm, .inr (10, [.int 0, .int 9, .int t5, .int 99, .ref c2, .ref ps2, .ref pr, .int 0, .int 0, .int ((-1)), .ref l2, .long 0])), (ps2, .inr (3, [.int 0, .ref em, .int 0])), (pr, .inl (cP, 2, .inr (.inr (.inr (.inr ((tw_two r0 r1))))))), (r0, .inl (cR, 24, .inr (.inr (.inr (.inr ((fun _ => none))))))), (r1, .inl (cR, 24, .inr (.inr (.inr (.inr ((fun _ => none))))))), (q_3, .inr (2, [.int 0, .int ((-1)), .int 0, .ref c2])), (c2, .inr (3, [.int 0, .ref em, .int 0]))] _ := hP
  have hD : va_D A [(q_1, .inr (2, [.int 0, .int ((-1)), .int 0, .ref ps2])), (mm, .inr (10, [.int 0, .int 9, .int t5, .int 99, .ref c2, .ref ps2, .ref pr, .int 0, .int 0, .int ((-1)), .ref l2, .long 0])), (ps2, .inr (3, [.int 0, .ref em, .int 0])), (pr, .inl (cP, 2, .inr (.inr (.inr (.inr ((tw_two r0 r1))))))), (r0, .inl (cR, 24, .inr (.inr (.inr (.inr ((fun _ => none))))))), (r1, .inl (cR, 24, .inr (.inr (.inr (.inr ((fun _ => none))))))), (q_3, .inr (2, [.int 0, .int ((-1)), .int 0, .ref c2])), (c2, .inr (3, [.int 0, .ref em, .int 0]))] := hD
  have hK : va_K D vwCl [(cP, .array (.object "TowerliftryModel$Car")), (cR, .object "TowerliftryModel$Car")] s := hK
  refine W.widen (k := 42) (n := 168) (Nat.le_refl _) (Nat.le_refl _) ?_
  refine W.eq (g2 := F0 m 110 ls [.int 0]) rfl ?_
  refine lv_if_eq (tgt := 138) hx hb dX6_passes_110 (by decide) (fun c9 => ?_) (fun c9 => absurd c9 (by decide))
  refine lv_aload_n hx hb dX6_passes_138 rfl (lv_at hl 1 rfl) ?_
  refine lv_dup hx hb dX6_passes_139 rfl ?_
  refine va_get (D := D) (ci := 10) (v := .int t5) (C := RX6) (T := TX6) (N := 12) hx hb hts hiRX6 hown hK hP 1 rfl rfl 2 (by decide) (hts (.fieldLink RX6 179 "TowerliftryModel" "tick" "I") (by decide +kernel)) (fun _ h9 => h9) rfl dX6_passes_140 ?_
  refine lv_iconst (v := 1) hx hb dX6_passes_143 (by decide) ?_
  refine lv_iadd hx hb dX6_passes_144 ?_
  refine va_put (D := D) (ci := 10) (v := .int (t5 + (1 : Int32))) (ty := .int) (C := RX6) (T := TX6) (N := 12) hx hb hts hiRX6 tyX6 tyX6_ok nmX6 hown hK hP hD hS 1 rfl rfl 2 (by decide) (hts (.fieldLink RX6 179 "TowerliftryModel" "tick" "I") (by decide +kernel)) (fun _ h9 => h9) rfl (by decide +kernel) rfl rfl (Nat.le_of_ble_eq_true rfl) dX6_passes_145 (fun H locs hP hD hS => ?_)
  have hP : va_P D vwCl [(q_1, .inr (2, [.int 0, .int ((-1)), .int 0, .ref ps2])), (mm, .inr (10, [.int 0, .int 9, .int (t5 + (1 : Int32)), .int 99, .ref c2, .ref ps2, .ref pr, .int 0, .int 0, .int ((-1)), .ref l2, .long 0])), (ps2, .inr (3, [.int 0, .ref em, .int 0])), (pr, .inl (cP, 2, .inr (.inr (.inr (.inr ((tw_two r0 r1))))))), (r0, .inl (cR, 24, .inr (.inr (.inr (.inr ((fun _ => none))))))), (r1, .inl (cR, 24, .inr (.inr (.inr (.inr ((fun _ => none))))))), (q_3, .inr (2, [.int 0, .int ((-1)), .int 0, .ref c2])), (c2, .inr (3, [.int 0, .ref em, .int 0]))] _ := hP
  have hD : va_D A [(q_1, .inr (2, [.int 0, .int ((-1)), .int 0, .ref ps2])), (mm, .inr (10, [.int 0, .int 9, .int (t5 + (1 : Int32)), .int 99, .ref c2, .ref ps2, .ref pr, .int 0, .int 0, .int ((-1)), .ref l2, .long 0])), (ps2, .inr (3, [.int 0, .ref em, .int 0])), (pr, .inl (cP, 2, .inr (.inr (.inr (.inr ((tw_two r0 r1))))))), (r0, .inl (cR, 24, .inr (.inr (.inr (.inr ((fun _ => none))))))), (r1, .inl (cR, 24, .inr (.inr (.inr (.inr ((fun _ => none))))))), (q_3, .inr (2, [.int 0, .int ((-1)), .int 0, .ref c2])), (c2, .inr (3, [.int 0, .ref em, .int 0]))] := hD
  refine W.widen (k := 42) (n := 168) (Nat.le_of_ble_eq_true rfl) (Nat.le_of_ble_eq_true rfl) ?_
  have hP9 := hP.sub (ws' := [(mm, .inr (10, [.int 0, .int 9, .int (t5 + (1 : Int32)), .int 99, .ref c2, .ref ps2, .ref pr, .int 0, .int 0, .int ((-1)), .ref l2, .long 0])), (c2, .inr (3, [.int 0, .ref em, .int 0])), (ps2, .inr (3, [.int 0, .ref em, .int 0])), (pr, .inl (cP, 2, .inr (.inr (.inr (.inr ((tw_two r0 r1))))))), (r0, .inl (cR, 24, .inr (.inr (.inr (.inr ((fun _ => none))))))), (r1, .inl (cR, 24, .inr (.inr (.inr (.inr ((fun _ => none)))))))]) [1, 7, 2, 3, 4, 5] rfl
  have hD9 := hD.sub (ws' := [(mm, .inr (10, [.int 0, .int 9, .int (t5 + (1 : Int32)), .int 99, .ref c2, .ref ps2, .ref pr, .int 0, .int 0, .int ((-1)), .ref l2, .long 0])), (c2, .inr (3, [.int 0, .ref em, .int 0])), (ps2, .inr (3, [.int 0, .ref em, .int 0])), (pr, .inl (cP, 2, .inr (.inr (.inr (.inr ((tw_two r0 r1))))))), (r0, .inl (cR, 24, .inr (.inr (.inr (.inr ((fun _ => none))))))), (r1, .inl (cR, 24, .inr (.inr (.inr (.inr ((fun _ => none)))))))]) [1, 7, 2, 3, 4, 5] (by decide) rfl
  have hK9 := hK.sub (tys' := []) [] rfl
  exact W.vret hx hb hr (fun t ht hW => ⟨⟨([(mm, .inr (10, [.int 0, .int 9, .int (t5 + (1 : Int32)), .int 99, .ref c2, .ref ps2, .ref pr, .int 0, .int 0, .int ((-1)), .ref l2, .long 0])), (c2, .inr (3, [.int 0, .ref em, .int 0])), (ps2, .inr (3, [.int 0, .ref em, .int 0])), (pr, .inl (cP, 2, .inr (.inr (.inr (.inr ((tw_two r0 r1))))))), (r0, .inl (cR, 24, .inr (.inr (.inr (.inr ((fun _ => none))))))), (r1, .inl (cR, 24, .inr (.inr (.inr (.inr ((fun _ => none)))))))], []), rfl, rfl, by rw [ht]; exact hP9, va_K.moved hW.alike hK9, hD9⟩, hS.F ht⟩) hS.2.2 dX6_passes_148
