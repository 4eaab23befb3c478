theorem tw_gc {big a : List Cond} {c : Cond} (hc : GoodIn big [c]) (ha : GoodIn big a) : GoodIn big (c :: a) := fun w h => (List.mem_cons.mp h).elim (fun e => hc w (by rw [e]; exact List.mem_cons_self)) (ha w)

theorem dX6_pass_0 : decode cX6_pass 0 = .ok (.iload_n 1, 1) := by decide +kernel
theorem dX6_pass_1 : decode cX6_pass 1 = .ok (.iconst 1, 1) := by decide +kernel
theorem dX6_pass_2 : decode cX6_pass 2 = .ok (.bipush 100, 2) := by decide +kernel
set_option maxRecDepth 20000 in
theorem ggX6_pass_X6_in : GoodIn wsX6_pass wsX6_in := goodIn_r _ [5] (by decide +kernel) (by decide +kernel)
set_option maxRecDepth 20000 in
theorem gX6_pass_X6_in : GoodIn wsX6_pass (va_wsS RX6 41 yX6_in wsX6_in) := goodIn_app (goodIn_of _ (by decide +kernel)) ggX6_pass_X6_in
theorem dX6_pass_4 : decode cX6_pass 4 = .ok (.invokestatic 41, 3) := by decide +kernel
theorem dX6_pass_7 : decode cX6_pass 7 = .ok (.ifCond .ne 9, 3) := by decide +kernel
theorem dX6_pass_10 : decode cX6_pass 10 = .ok (.aload_n 0, 1) := by decide +kernel
theorem dX6_pass_11 : decode cX6_pass 11 = .ok (.iconst 1, 1) := by decide +kernel
set_option maxRecDepth 20000 in
theorem ggX6_pass_X6_fails : GoodIn wsX6_pass wsX6_fails := goodIn_r _ [9, 10, 289, 290, 291, 292, 293, 294, 295, 296, 297, 298, 299, 300] (by decide +kernel) (by decide +kernel)
set_option maxRecDepth 20000 in
theorem gX6_pass_X6_fails : GoodIn wsX6_pass (wsV RX6 45 RX6 yX6_fails wsX6_fails) := goodIn_app (goodIn_of _ (by decide +kernel)) ggX6_pass_X6_fails
theorem dX6_pass_12 : decode cX6_pass 12 = .ok (.invokevirtual 45, 3) := by decide +kernel
theorem dX6_pass_15 : decode cX6_pass 15 = .ok (.ireturn, 1) := by decide +kernel
theorem dX6_pass_16 : decode cX6_pass 16 = .ok (.iconst 0, 1) := by decide +kernel
theorem dX6_pass_17 : decode cX6_pass 17 = .ok (.istore_n 2, 1) := by decide +kernel
theorem dX6_pass_18 : decode cX6_pass 18 = .ok (.iload_n 2, 1) := by decide +kernel
theorem dX6_pass_19 : decode cX6_pass 19 = .ok (.iload_n 1, 1) := by decide +kernel
theorem dX6_pass_20 : decode cX6_pass 20 = .ok (.if_icmp .ge 13, 3) := by decide +kernel
theorem dX6_pass_23 : decode cX6_pass 23 = .ok (.aload_n 0, 1) := by decide +kernel
set_option maxRecDepth 20000 in
theorem ggX6_pass_X6_passes_c0 : GoodIn wsX6_pass [Cond.code yX6_passes cX6_passes 3 none] := goodIn_r _ [14] (by decide +kernel) (by decide +kernel)
set_option maxRecDepth 20000 in
theorem ggX6_pass_X6_passes_c1 : GoodIn wsX6_pass wsX6_passes_r1 := goodIn_r _ [15, 16, 17, 1, 18, 19, 20, 21, 22, 23, 24, 25, 26, 27, 28, 29, 30, 31, 32, 33, 34, 35, 36, 37] (by decide +kernel) (by decide +kernel)
set_option maxRecDepth 20000 in
theorem ggX6_pass_X6_passes_c2 : GoodIn wsX6_pass wsX6_passes_r2 := goodIn_r _ [38, 39, 40, 41, 42, 43, 44, 45, 46, 47, 48, 49, 50, 51, 52, 53, 54, 55, 56, 4, 57, 58, 59, 60] (by decide +kernel) (by decide +kernel)
set_option maxRecDepth 20000 in
theorem ggX6_pass_X6_passes_c3 : GoodIn wsX6_pass wsX6_passes_r3 := goodIn_r _ [61, 62, 63, 64, 65, 66, 67, 68, 69, 70, 71, 72, 73, 74, 75, 76, 77, 78, 79, 80, 81, 82, 83, 84] (by decide +kernel) (by decide +kernel)
set_option maxRecDepth 20000 in
theorem ggX6_pass_X6_passes_c4 : GoodIn wsX6_pass wsX6_passes_r4 := goodIn_r _ [85, 86, 87, 88, 89, 90, 91, 92, 93, 94, 95, 96, 97, 98, 99, 100, 101, 102, 103, 104, 105, 106, 107, 108] (by decide +kernel) (by decide +kernel)
set_option maxRecDepth 20000 in
theorem ggX6_pass_X6_passes_c5 : GoodIn wsX6_pass wsX6_passes_r5 := goodIn_r _ [109, 110, 111, 112, 113, 114, 115, 116, 117, 118, 119, 120, 121, 122, 123, 124, 125, 3, 5, 126, 127, 128, 129, 130] (by decide +kernel) (by decide +kernel)
set_option maxRecDepth 20000 in
theorem ggX6_pass_X6_passes_c6 : GoodIn wsX6_pass wsX6_passes_r6 := goodIn_r _ [131, 132, 133, 134, 135, 136, 137, 138, 139, 140, 141, 142, 143, 2, 144, 145, 146, 147, 148, 149, 150, 151, 152, 153] (by decide +kernel) (by decide +kernel)
set_option maxRecDepth 20000 in
theorem ggX6_pass_X6_passes_c7 : GoodIn wsX6_pass wsX6_passes_r7 := goodIn_r _ [154, 155, 156, 157, 158, 159, 160, 161, 162, 163, 164, 165, 166, 167, 168, 169, 170, 171, 172, 173, 174, 175, 176, 177] (by decide +kernel) (by decide +kernel)
set_option maxRecDepth 20000 in
theorem ggX6_pass_X6_passes_c8 : GoodIn wsX6_pass wsX6_passes_r8 := goodIn_r _ [178, 179, 180, 181, 182, 183, 184, 185, 186, 187, 188, 189, 190, 191, 192, 193, 194, 195, 196, 197, 198, 199, 200, 201] (by decide +kernel) (by decide +kernel)
set_option maxRecDepth 20000 in
theorem ggX6_pass_X6_passes_c9 : GoodIn wsX6_pass wsX6_passes_r9 := goodIn_r _ [202, 203, 204, 205, 206, 207, 208, 209, 210, 211, 212, 213, 214, 215, 216, 217, 218, 219, 220, 221, 222, 223, 224, 225] (by decide +kernel) (by decide +kernel)
set_option maxRecDepth 20000 in
theorem ggX6_pass_X6_passes_c10 : GoodIn wsX6_pass wsX6_passes_r10 := goodIn_r _ [226, 227, 228, 229, 230, 231, 232, 233, 234, 235, 236, 237, 238, 239, 240, 241, 242, 243, 244, 245, 246, 247, 248, 249] (by decide +kernel) (by decide +kernel)
set_option maxRecDepth 20000 in
theorem ggX6_pass_X6_passes_c11 : GoodIn wsX6_pass wsX6_passes_r11 := goodIn_r _ [250, 251, 252, 253, 254, 255, 256, 257, 258, 259, 260, 261, 262, 263, 264, 265, 266, 267, 268, 269, 270, 271, 272, 273] (by decide +kernel) (by decide +kernel)
set_option maxRecDepth 20000 in
theorem ggX6_pass_X6_passes_c12 : GoodIn wsX6_pass wsX6_passes_r12 := goodIn_r _ [274, 275, 276, 277, 278, 279, 280, 281, 282, 283, 284] (by decide +kernel) (by decide +kernel)
set_option maxRecDepth 20000 in
theorem ggX6_pass_X6_passes_c13 : GoodIn wsX6_pass wsX60 := goodIn_r _ [289, 290, 291, 292, 293, 294, 295, 296, 297, 298, 299, 300] (by decide +kernel) (by decide +kernel)
set_option maxRecDepth 20000 in
theorem ggX6_pass_X6_passes_c14 : GoodIn wsX6_pass wsX50 := goodIn_r _ [301, 302, 303, 304, 305, 306, 307, 308] (by decide +kernel) (by decide +kernel)
set_option maxRecDepth 20000 in
theorem ggX6_pass_X6_passes_c15 : GoodIn wsX6_pass wsX40 := goodIn_r _ [309, 310, 311, 312, 313, 314, 315, 316, 317, 318, 319, 320, 321, 322] (by decide +kernel) (by decide +kernel)
set_option maxRecDepth 20000 in
theorem ggX6_pass_X6_passes_c16 : GoodIn wsX6_pass wsJx354110 := goodIn_r _ [323, 324, 325, 326] (by decide +kernel) (by decide +kernel)
set_option maxRecDepth 20000 in
theorem ggX6_pass_X6_passes_c17 : GoodIn wsX6_pass wsJx4a65c0 := goodIn_r _ [327, 328, 329] (by decide +kernel) (by decide +kernel)
set_option maxRecDepth 20000 in
theorem ggX6_pass_X6_passes : GoodIn wsX6_pass wsX6_passes := goodIn_ca (goodIn_ca (tw_gc ggX6_pass_X6_passes_c0 (goodIn_app (goodIn_app (goodIn_app (goodIn_app (goodIn_app (goodIn_app ggX6_pass_X6_passes_c1 (goodIn_app ggX6_pass_X6_passes_c2 (goodIn_app ggX6_pass_X6_passes_c3 (goodIn_app ggX6_pass_X6_passes_c4 (goodIn_app ggX6_pass_X6_passes_c5 (goodIn_app ggX6_pass_X6_passes_c6 (goodIn_app ggX6_pass_X6_passes_c7 (goodIn_app ggX6_pass_X6_passes_c8 (goodIn_app ggX6_pass_X6_passes_c9 (goodIn_app ggX6_pass_X6_passes_c10 (goodIn_app ggX6_pass_X6_passes_c11 ggX6_pass_X6_passes_c12))))))))))) ggX6_pass_X6_passes_c13) ggX6_pass_X6_passes_c14) ggX6_pass_X6_passes_c15) ggX6_pass_X6_passes_c16) ggX6_pass_X6_passes_c17)) (goodIn_sub (fun _ h => List.mem_cons_of_mem _ (List.mem_append_left _ (List.mem_append_right _ h))) (by decide +kernel))) (goodIn_sub (fun _ h => List.mem_cons_of_mem _ (List.mem_append_right _ h)) (by decide +kernel))
set_option maxRecDepth 20000 in
theorem gX6_pass_X6_passes : GoodIn wsX6_pass (wsV RX6 176 RX6 yX6_passes wsX6_passes) := goodIn_app (goodIn_of _ (by decide +kernel)) ggX6_pass_X6_passes
theorem dX6_pass_24 : decode cX6_pass 24 = .ok (.invokevirtual 176, 3) := by decide +kernel
theorem dX6_pass_27 : decode cX6_pass 27 = .ok (.iinc 2 1, 3) := by decide +kernel
theorem dX6_pass_30 : decode cX6_pass 30 = .ok (.goto (-12), 3) := by decide +kernel
theorem dX6_pass_33 : decode cX6_pass 33 = .ok (.aload_n 0, 1) := by decide +kernel
theorem dX6_pass_34 : decode cX6_pass 34 = .ok (.aload_n 0, 1) := by decide +kernel
theorem dX6_pass_35 : decode cX6_pass 35 = .ok (.getfield 179, 3) := by decide +kernel
set_option maxRecDepth 20000 in
theorem ggX6_pass_X6_tells : GoodIn wsX6_pass wsX6_tells := goodIn_r _ [288, 10, 289, 290, 291, 292, 293, 294, 295, 296, 297, 298, 299, 300] (by decide +kernel) (by decide +kernel)
set_option maxRecDepth 20000 in
theorem gX6_pass_X6_tells : GoodIn wsX6_pass (wsV RX6 53 RX6 yX6_tells wsX6_tells) := goodIn_app (goodIn_of _ (by decide +kernel)) ggX6_pass_X6_tells
theorem dX6_pass_38 : decode cX6_pass 38 = .ok (.invokevirtual 53, 3) := by decide +kernel
theorem dX6_pass_41 : decode cX6_pass 41 = .ok (.ireturn, 1) := by decide +kernel
set_option maxHeartbeats 4000000 in
set_option maxRecDepth 100000 in
theorem c_X6_pass (l : Launch) (hst : l.stackTraces = false) (em kw kb : Nat) (D : va_G) (mm : Nat) (p0 : Int32) (c2 : Nat) (ps2 : Nat) (pr : Nat) (l2 : Nat) (cP : ClassId) (r0 : Nat) (cR : ClassId) (r1 : Nat) (sz : Nat) : Met l yX6_pass wsX6_pass ({ frames := 6, cells := 4200, slots := 16800, locals := 122 }) (va_Pc [.ref mm, .int p0] (tw_Pre em kw kb D sz [(mm, .inr (10, [.int 0, .int 9, .int 0, .int 99, .ref c2, .ref ps2, .ref pr, .int 0, .int 0, .int ((-1)), .ref l2, .long 0])), (c2, .inr (3, [.int 0, .ref em, .int 0])), (ps2, .inr (3, [.int 0, .ref em, .int 0])), (pr, .inl (cP, 2, .inr (.inr (.inr (.inr ((tw_two r0 r1))))))), (r0, .inl (cR, 24, .inr (.inr (.inr (.inr ((fun _ => none))))))), (r1, .inl (cR, 24, .inr (.inr (.inr (.inr ((fun _ => none)))))))] [(cP, .array (.object "TowerliftryModel$Car")), (cR, .object "TowerliftryModel$Car")])) (va_Qi (fun (r : Int32) (u : tw_U) => ((((p0 < 1) ∨ (¬ p0 < 1 ∧ 100 < p0))) ∧ r = 0 ∧ u = ([(mm, .inr (10, [.int 1, .int 9, .int 0, .int 99, .ref c2, .ref ps2, .ref pr, .int 0, .int 0, .int ((-1)), .ref l2, .long 0]))], [])) ∨ (((¬ p0 < 1 ∧ ¬ 100 < p0)) ∧ r = p0 ∧ u = ([(mm, .inr (10, [.int 0, .int 9, .int p0, .int 99, .ref c2, .ref ps2, .ref pr, .int 0, .int 0, .int ((-1)), .ref l2, .long 0]))], []))) (tw_B D (va_A [(mm, .inr (10, [.int 0, .int 9, .int 0, .int 99, .ref c2, .ref ps2, .ref pr, .int 0, .int 0, .int ((-1)), .ref l2, .long 0])), (c2, .inr (3, [.int 0, .ref em, .int 0])), (ps2, .inr (3, [.int 0, .ref em, .int 0])), (pr, .inl (cP, 2, .inr (.inr (.inr (.inr ((tw_two r0 r1))))))), (r0, .inl (cR, 24, .inr (.inr (.inr (.inr ((fun _ => none))))))), (r1, .inl (cR, 24, .inr (.inr (.inr (.inr ((fun _ => none)))))))] sz)) (va_A [(mm, .inr (10, [.int 0, .int 9, .int 0, .int 99, .ref c2, .ref ps2, .ref pr, .int 0, .int 0, .int ((-1)), .ref l2, .long 0])), (c2, .inr (3, [.int 0, .ref em, .int 0])), (ps2, .inr (3, [.int 0, .ref em, .int 0])), (pr, .inl (cP, 2, .inr (.inr (.inr (.inr ((tw_two r0 r1))))))), (r0, .inl (cR, 24, .inr (.inr (.inr (.inr ((fun _ => none))))))), (r1, .inl (cR, 24, .inr (.inr (.inr (.inr ((fun _ => none)))))))] sz)) 4200 16800 (va_A [(mm, .inr (10, [.int 0, .int 9, .int 0, .int 99, .ref c2, .ref ps2, .ref pr, .int 0, .int 0, .int ((-1)), .ref l2, .long 0])), (c2, .inr (3, [.int 0, .ref em, .int 0])), (ps2, .inr (3, [.int 0, .ref em, .int 0])), (pr, .inl (cP, 2, .inr (.inr (.inr (.inr ((tw_two r0 r1))))))), (r0, .inl (cR, 24, .inr (.inr (.inr (.inr ((fun _ => none))))))), (r1, .inl (cR, 24, .inr (.inr (.inr (.inr ((fun _ => none)))))))] sz) := by
  refine Met.ofW (cc := cX6_pass) (maxL := 3) (ret := (some .int)) (by decide) rfl ?_
  intro p e s m args below meth c s₁ B hml hv
  obtain ⟨rfl, hsz, hP, hK, hD0, hF⟩ := hv
  have hx := B.exec
  have hb := B.bytes
  have hr := B.returns
  have hts := atoms_spec (ws := wsX6_pass) B.pre
  have hown : s.vm.findClass RX6 = some m.cls := findClass_of_methodNamed B.named
  have hlocks := B.notSynchronized
  have hiRX6 : ∀ w ∈ u_ws RX6 TX6 12, w ∈ wsX6_pass := by decide +kernel
  subst hsz
  have hD := hD0.self (sz := s.heap.size)
  generalize hAe : va_A [(mm, .inr (10, [.int 0, .int 9, .int 0, .int 99, .ref c2, .ref ps2, .ref pr, .int 0, .int 0, .int ((-1)), .ref l2, .long 0])), (c2, .inr (3, [.int 0, .ref em, .int 0])), (ps2, .inr (3, [.int 0, .ref em, .int 0])), (pr, .inl (cP, 2, .inr (.inr (.inr (.inr ((tw_two r0 r1))))))), (r0, .inl (cR, 24, .inr (.inr (.inr (.inr ((fun _ => none))))))), (r1, .inl (cR, 24, .inr (.inr (.inr (.inr ((fun _ => none)))))))] s.heap.size = A at hD hF ⊢
  have hA : ∀ q : Nat, s.heap.size ≤ q → A q := fun q h => by rw [← hAe]; exact Or.inr h
  have hS : va_S A s.heap s.heap [] := va_S.rf
  have hP : va_P D vwCl [(mm, .inr (10, [.int 0, .int 9, .int 0, .int 99, .ref c2, .ref ps2, .ref pr, .int 0, .int 0, .int ((-1)), .ref l2, .long 0])), (c2, .inr (3, [.int 0, .ref em, .int 0])), (ps2, .inr (3, [.int 0, .ref em, .int 0])), (pr, .inl (cP, 2, .inr (.inr (.inr (.inr ((tw_two r0 r1))))))), (r0, .inl (cR, 24, .inr (.inr (.inr (.inr ((fun _ => none))))))), (r1, .inl (cR, 24, .inr (.inr (.inr (.inr ((fun _ => none)))))))] s.heap := hP
  have hl := lv_entry ([.ref mm, .int p0]) (n := 3) (Nat.le_of_ble_eq_true rfl)
  rw [lg_entry_eq]
  generalize (lg_sl ([.ref mm, .int p0]) ++ List.replicate (3 - (lg_sl ([.ref mm, .int p0])).length) Slot.unset).toArray = ls at hl ⊢
  have hl : lv_has ls 3 [(0, .ref mm), (1, .int p0)] := hl
  refine lv_iload_n hx hb dX6_pass_0 rfl (lv_at hl 1 rfl) ?_
  refine lv_iconst (v := 1) hx hb dX6_pass_1 (by decide) ?_
  refine lv_bipush (v := 100) hx hb dX6_pass_2 (by decide) ?_
  have hPc := hP.sub (ws' := []) [] rfl
  have hDc := hD.sub (ws' := []) [] (by decide) rfl
  have hKc := hK.sub (tys' := []) [] rfl
  have hFc := va_free (wc := []) hD hS hA [] rfl
  refine va_calli (va_runS (As := [.int p0, .int 1, .int 100]) (rest := []) ⟨hx, hb, hml, hown, hts⟩ (c_X6_in l hst em kw kb D p0 1 100 _) (va_cwS 3 hts gX6_pass_X6_in rfl rfl rfl (by decide +kernel) ⟨(Nat.le_of_ble_eq_true rfl), (Nat.le_of_ble_eq_true rfl)⟩) (tw_preS hF hS hFc hPc hKc hDc) rfl rfl hl.1 rfl (lv_room (Nat.le_of_ble_eq_true rfl)) dX6_pass_4 ⟨(Nat.le_of_ble_eq_true rfl), (Nat.le_of_ble_eq_true rfl)⟩) hS (fun q _ h => hFc q h) hFc (fun r u t H locs ht hvm hw hB hz1 hk1 hS => ?_)
  rcases hw with hw | hw
  · obtain ⟨g_1, rfl, rfl⟩ := hw
    obtain ⟨hP, hD, hK⟩ := tw_join (wr := [(mm, .inr (10, [.int 0, .int 9, .int 0, .int 99, .ref c2, .ref ps2, .ref pr, .int 0, .int 0, .int ((-1)), .ref l2, .long 0])), (c2, .inr (3, [.int 0, .ref em, .int 0])), (ps2, .inr (3, [.int 0, .ref em, .int 0])), (pr, .inl (cP, 2, .inr (.inr (.inr (.inr ((tw_two r0 r1))))))), (r0, .inl (cR, 24, .inr (.inr (.inr (.inr ((fun _ => none))))))), (r1, .inl (cR, 24, .inr (.inr (.inr (.inr ((fun _ => none)))))))]) hP hD hK [] [0, 1, 2, 3, 4, 5] rfl rfl (by decide) (by decide) hk1 hFc ht hvm hB
    have hP : va_P D vwCl [(mm, .inr (10, [.int 0, .int 9, .int 0, .int 99, .ref c2, .ref ps2, .ref pr, .int 0, .int 0, .int ((-1)), .ref l2, .long 0])), (c2, .inr (3, [.int 0, .ref em, .int 0])), (ps2, .inr (3, [.int 0, .ref em, .int 0])), (pr, .inl (cP, 2, .inr (.inr (.inr (.inr ((tw_two r0 r1))))))), (r0, .inl (cR, 24, .inr (.inr (.inr (.inr ((fun _ => none))))))), (r1, .inl (cR, 24, .inr (.inr (.inr (.inr ((fun _ => none)))))))] _ := hP
    have hD : va_D A [(mm, .inr (10, [.int 0, .int 9, .int 0, .int 99, .ref c2, .ref ps2, .ref pr, .int 0, .int 0, .int ((-1)), .ref l2, .long 0])), (c2, .inr (3, [.int 0, .ref em, .int 0])), (ps2, .inr (3, [.int 0, .ref em, .int 0])), (pr, .inl (cP, 2, .inr (.inr (.inr (.inr ((tw_two r0 r1))))))), (r0, .inl (cR, 24, .inr (.inr (.inr (.inr ((fun _ => none))))))), (r1, .inl (cR, 24, .inr (.inr (.inr (.inr ((fun _ => none)))))))] := hD
    have hK : va_K D vwCl [(cP, .array (.object "TowerliftryModel$Car")), (cR, .object "TowerliftryModel$Car")] s := hK
    refine W.widen (k := 0) (n := 0) (Nat.le_refl _) (Nat.le_refl _) ?_
    refine W.eq (g2 := F0 m 7 ls [.int 0]) rfl ?_
    refine lv_if_ne (tgt := 16) hx hb dX6_pass_7 (by decide) (fun c9 => absurd c9 (by decide)) (fun c9 => ?_)
    refine lv_aload_n hx hb dX6_pass_10 rfl (lv_at hl 0 rfl) ?_
    refine lv_iconst (v := 1) hx hb dX6_pass_11 (by decide) ?_
    have hPc := hP.sub (ws' := [(mm, .inr (10, [.int 0, .int 9, .int 0, .int 99, .ref c2, .ref ps2, .ref pr, .int 0, .int 0, .int ((-1)), .ref l2, .long 0]))]) [0] rfl
    have hDc := hD.sub (ws' := [(mm, .inr (10, [.int 0, .int 9, .int 0, .int 99, .ref c2, .ref ps2, .ref pr, .int 0, .int 0, .int ((-1)), .ref l2, .long 0]))]) [0] (by decide) rfl
    have hKc := hK.sub (tys' := []) [] rfl
    have hFc := va_free (wc := [(mm, .inr (10, [.int 0, .int 9, .int 0, .int 99, .ref c2, .ref ps2, .ref pr, .int 0, .int 0, .int ((-1)), .ref l2, .long 0]))]) hD hS hA [0] rfl
    refine va_calli (va_runV (As := [.int 1]) (rest := []) ⟨hx, hb, hml, hown, hts⟩ (c_X6_fails l hst em kw kb D mm 1 0 9 0 99 c2 ps2 pr 0 0 ((-1)) l2 0 _) (cwV 1 hts gX6_pass_X6_fails rfl rfl rfl (by decide +kernel) ⟨(Nat.le_of_ble_eq_true rfl), (Nat.le_of_ble_eq_true rfl)⟩) (tw_preV hF hS hFc hPc hKc hDc (va_recv hKc hPc (ci := 10) (q0 := 0) rfl rfl)) rfl rfl hl.1 rfl (lv_room (Nat.le_of_ble_eq_true rfl)) dX6_pass_12 ⟨(Nat.le_of_ble_eq_true rfl), (Nat.le_of_ble_eq_true rfl)⟩) hS (fun q _ h => hFc q h) hFc (fun r u t H locs ht hvm hw hB hz1 hk1 hS => ?_)
    obtain ⟨rfl, rfl⟩ := hw
    obtain ⟨hP, hD, hK⟩ := tw_join (wr := [(c2, .inr (3, [.int 0, .ref em, .int 0])), (ps2, .inr (3, [.int 0, .ref em, .int 0])), (pr, .inl (cP, 2, .inr (.inr (.inr (.inr ((tw_two r0 r1))))))), (r0, .inl (cR, 24, .inr (.inr (.inr (.inr ((fun _ => none))))))), (r1, .inl (cR, 24, .inr (.inr (.inr (.inr ((fun _ => none)))))))]) hP hD hK [0] [1, 2, 3, 4, 5] rfl rfl (by decide) (by decide) hk1 hFc ht hvm hB
    have hP : va_P D vwCl [(c2, .inr (3, [.int 0, .ref em, .int 0])), (ps2, .inr (3, [.int 0, .ref em, .int 0])), (pr, .inl (cP, 2, .inr (.inr (.inr (.inr ((tw_two r0 r1))))))), (r0, .inl (cR, 24, .inr (.inr (.inr (.inr ((fun _ => none))))))), (r1, .inl (cR, 24, .inr (.inr (.inr (.inr ((fun _ => none))))))), (mm, .inr (10, [.int 1, .int 9, .int 0, .int 99, .ref c2, .ref ps2, .ref pr, .int 0, .int 0, .int ((-1)), .ref l2, .long 0]))] _ := hP
    have hD : va_D A [(c2, .inr (3, [.int 0, .ref em, .int 0])), (ps2, .inr (3, [.int 0, .ref em, .int 0])), (pr, .inl (cP, 2, .inr (.inr (.inr (.inr ((tw_two r0 r1))))))), (r0, .inl (cR, 24, .inr (.inr (.inr (.inr ((fun _ => none))))))), (r1, .inl (cR, 24, .inr (.inr (.inr (.inr ((fun _ => none))))))), (mm, .inr (10, [.int 1, .int 9, .int 0, .int 99, .ref c2, .ref ps2, .ref pr, .int 0, .int 0, .int ((-1)), .ref l2, .long 0]))] := hD
    have hK : va_K D vwCl [(cP, .array (.object "TowerliftryModel$Car")), (cR, .object "TowerliftryModel$Car")] s := hK
    refine W.widen (k := 0) (n := 0) (Nat.le_refl _) (Nat.le_refl _) ?_
    refine W.eq (g2 := F0 m 15 ls [.int 0]) rfl ?_
    refine W.widen (k := 4200) (n := 16800) (Nat.le_of_ble_eq_true rfl) (Nat.le_of_ble_eq_true rfl) ?_
    have hP9 := hP.sub (ws' := [(mm, .inr (10, [.int 1, .int 9, .int 0, .int 99, .ref c2, .ref ps2, .ref pr, .int 0, .int 0, .int ((-1)), .ref l2, .long 0]))]) [5] rfl
    have hD9 := hD.sub (ws' := [(mm, .inr (10, [.int 1, .int 9, .int 0, .int 99, .ref c2, .ref ps2, .ref pr, .int 0, .int 0, .int ((-1)), .ref l2, .long 0]))]) [5] (by decide) rfl
    have hK9 := hK.sub (tys' := []) [] rfl
    exact W.iret (v := 0) hx hb hr (fun t ht hW => ⟨⟨0, ([(mm, .inr (10, [.int 1, .int 9, .int 0, .int 99, .ref c2, .ref ps2, .ref pr, .int 0, .int 0, .int ((-1)), .ref l2, .long 0]))], []), rfl, (Or.inl ⟨g_1, rfl, rfl⟩), by rw [ht]; exact hP9, va_K.moved hW.alike hK9, hD9⟩, hS.F ht⟩) hS.2.2 dX6_pass_15
  · obtain ⟨g_2, rfl, rfl⟩ := hw
    obtain ⟨hP, hD, hK⟩ := tw_join (wr := [(mm, .inr (10, [.int 0, .int 9, .int 0, .int 99, .ref c2, .ref ps2, .ref pr, .int 0, .int 0, .int ((-1)), .ref l2, .long 0])), (c2, .inr (3, [.int 0, .ref em, .int 0])), (ps2, .inr (3, [.int 0, .ref em, .int 0])), (pr, .inl (cP, 2, .inr (.inr (.inr (.inr ((tw_two r0 r1))))))), (r0, .inl (cR, 24, .inr (.inr (.inr (.inr ((fun _ => none))))))), (r1, .inl (cR, 24, .inr (.inr (.inr (.inr ((fun _ => none)))))))]) hP hD hK [] [0, 1, 2, 3, 4, 5] rfl rfl (by decide) (by decide) hk1 hFc ht hvm hB
    have hP : va_P D vwCl [(mm, .inr (10, [.int 0, .int 9, .int 0, .int 99, .ref c2, .ref ps2, .ref pr, .int 0, .int 0, .int ((-1)), .ref l2, .long 0])), (c2, .inr (3, [.int 0, .ref em, .int 0])), (ps2, .inr (3, [.int 0, .ref em, .int 0])), (pr, .inl (cP, 2, .inr (.inr (.inr (.inr ((tw_two r0 r1))))))), (r0, .inl (cR, 24, .inr (.inr (.inr (.inr ((fun _ => none))))))), (r1, .inl (cR, 24, .inr (.inr (.inr (.inr ((fun _ => none)))))))] _ := hP
    have hD : va_D A [(mm, .inr (10, [.int 0, .int 9, .int 0, .int 99, .ref c2, .ref ps2, .ref pr, .int 0, .int 0, .int ((-1)), .ref l2, .long 0])), (c2, .inr (3, [.int 0, .ref em, .int 0])), (ps2, .inr (3, [.int 0, .ref em, .int 0])), (pr, .inl (cP, 2, .inr (.inr (.inr (.inr ((tw_two r0 r1))))))), (r0, .inl (cR, 24, .inr (.inr (.inr (.inr ((fun _ => none))))))), (r1, .inl (cR, 24, .inr (.inr (.inr (.inr ((fun _ => none)))))))] := hD
    have hK : va_K D vwCl [(cP, .array (.object "TowerliftryModel$Car")), (cR, .object "TowerliftryModel$Car")] s := hK
    refine W.widen (k := 0) (n := 0) (Nat.le_refl _) (Nat.le_refl _) ?_
    refine W.eq (g2 := F0 m 7 ls [.int 1]) rfl ?_
    refine lv_if_ne (tgt := 16) hx hb dX6_pass_7 (by decide) (fun c9 => ?_) (fun c9 => absurd c9 (by decide))
    refine lv_iconst (v := 0) hx hb dX6_pass_16 (by decide) ?_
    refine lv_istore_n (lv' := [(2, .int 0), (0, .ref mm), (1, .int p0)]) hx hb dX6_pass_17 rfl hl (by decide) rfl (fun ls hl => ?_)
    obtain ⟨n9, hn1, hn9, hp9⟩ := tw_hund g_2.1 (tw_nlt g_2.2)
    refine tw_loop (fun y : Array Slot × Heap × List Loc × Nat × Nat => W p l e _ s m _ below meth c y.2.1 y.2.2.1 y.2.2.2.1 y.2.2.2.2 _ (F0 m 18 y.1 [])) n9 (fun (k9 : Nat) (y : Array Slot × Heap × List Loc × Nat × Nat) => lv_has y.1 3 [(2, .int (Int32.ofNat k9)), (0, .ref mm), (1, .int p0)] ∧ va_P D vwCl [(mm, .inr (10, [.int 0, .int 9, .int (Int32.ofNat k9), .int 99, .ref c2, .ref ps2, .ref pr, .int 0, .int 0, .int ((-1)), .ref l2, .long 0])), (c2, .inr (3, [.int 0, .ref em, .int 0])), (ps2, .inr (3, [.int 0, .ref em, .int 0])), (pr, .inl (cP, 2, .inr (.inr (.inr (.inr ((tw_two r0 r1))))))), (r0, .inl (cR, 24, .inr (.inr (.inr (.inr ((fun _ => none))))))), (r1, .inl (cR, 24, .inr (.inr (.inr (.inr ((fun _ => none)))))))] y.2.1 ∧ va_D A [(mm, .inr (10, [.int 0, .int 9, .int (Int32.ofNat k9), .int 99, .ref c2, .ref ps2, .ref pr, .int 0, .int 0, .int ((-1)), .ref l2, .long 0])), (c2, .inr (3, [.int 0, .ref em, .int 0])), (ps2, .inr (3, [.int 0, .ref em, .int 0])), (pr, .inl (cP, 2, .inr (.inr (.inr (.inr ((tw_two r0 r1))))))), (r0, .inl (cR, 24, .inr (.inr (.inr (.inr ((fun _ => none))))))), (r1, .inl (cR, 24, .inr (.inr (.inr (.inr ((fun _ => none)))))))] ∧ va_S A s.heap y.2.1 y.2.2.1 ∧ y.2.2.2.1 = 42 * k9 ∧ y.2.2.2.2 = 168 * k9) ?_ ?_ (ls, _, _, 0, 0) ⟨hl, hP, hD, hS, rfl, rfl⟩
    · rintro k9 ⟨ls, H, locs, kc9, ks9⟩ hk9 ⟨hl, hP, hD, hS, hkc, hks⟩ hgo
      have hkc : kc9 = 42 * k9 := hkc
      have hks : ks9 = 168 * k9 := hks
      have hl : lv_has ls 3 [(2, .int (Int32.ofNat k9)), (0, .ref mm), (1, .int p0)] := hl
      have hP : va_P D vwCl [(mm, .inr (10, [.int 0, .int 9, .int (Int32.ofNat k9), .int 99, .ref c2, .ref ps2, .ref pr, .int 0, .int 0, .int ((-1)), .ref l2, .long 0])), (c2, .inr (3, [.int 0, .ref em, .int 0])), (ps2, .inr (3, [.int 0, .ref em, .int 0])), (pr, .inl (cP, 2, .inr (.inr (.inr (.inr ((tw_two r0 r1))))))), (r0, .inl (cR, 24, .inr (.inr (.inr (.inr ((fun _ => none))))))), (r1, .inl (cR, 24, .inr (.inr (.inr (.inr ((fun _ => none)))))))] H := hP
      have hD : va_D A [(mm, .inr (10, [.int 0, .int 9, .int (Int32.ofNat k9), .int 99, .ref c2, .ref ps2, .ref pr, .int 0, .int 0, .int ((-1)), .ref l2, .long 0])), (c2, .inr (3, [.int 0, .ref em, .int 0])), (ps2, .inr (3, [.int 0, .ref em, .int 0])), (pr, .inl (cP, 2, .inr (.inr (.inr (.inr ((tw_two r0 r1))))))), (r0, .inl (cR, 24, .inr (.inr (.inr (.inr ((fun _ => none))))))), (r1, .inl (cR, 24, .inr (.inr (.inr (.inr ((fun _ => none)))))))] := hD
      have hS : va_S A s.heap H locs := hS
      show W p l e _ s m _ below meth c H locs kc9 ks9 _ (F0 m 18 ls [])
      refine lv_iload_n hx hb dX6_pass_18 rfl (lv_at hl 0 rfl) ?_
      refine lv_iload_n hx hb dX6_pass_19 rfl (lv_at hl 2 rfl) ?_
      refine lv_icmp_ge (tgt := 33) hx hb dX6_pass_20 (by decide) (fun c9 => absurd c9 (tw_nle hk9 hn9 hp9)) (fun _ => ?_)
      refine lv_aload_n hx hb dX6_pass_23 rfl (lv_at hl 1 rfl) ?_
      have hPc := hP.sub (ws' := [(mm, .inr (10, [.int 0, .int 9, .int (Int32.ofNat k9), .int 99, .ref c2, .ref ps2, .ref pr, .int 0, .int 0, .int ((-1)), .ref l2, .long 0])), (c2, .inr (3, [.int 0, .ref em, .int 0])), (ps2, .inr (3, [.int 0, .ref em, .int 0])), (pr, .inl (cP, 2, .inr (.inr (.inr (.inr ((tw_two r0 r1))))))), (r0, .inl (cR, 24, .inr (.inr (.inr (.inr ((fun _ => none))))))), (r1, .inl (cR, 24, .inr (.inr (.inr (.inr ((fun _ => none)))))))]) [0, 1, 2, 3, 4, 5] rfl
      have hDc := hD.sub (ws' := [(mm, .inr (10, [.int 0, .int 9, .int (Int32.ofNat k9), .int 99, .ref c2, .ref ps2, .ref pr, .int 0, .int 0, .int ((-1)), .ref l2, .long 0])), (c2, .inr (3, [.int 0, .ref em, .int 0])), (ps2, .inr (3, [.int 0, .ref em, .int 0])), (pr, .inl (cP, 2, .inr (.inr (.inr (.inr ((tw_two r0 r1))))))), (r0, .inl (cR, 24, .inr (.inr (.inr (.inr ((fun _ => none))))))), (r1, .inl (cR, 24, .inr (.inr (.inr (.inr ((fun _ => none)))))))]) [0, 1, 2, 3, 4, 5] (by decide) rfl
      have hKc := hK.sub (tys' := [(cP, .array (.object "TowerliftryModel$Car")), (cR, .object "TowerliftryModel$Car")]) [0, 1] rfl
      have hFc := va_free (wc := [(mm, .inr (10, [.int 0, .int 9, .int (Int32.ofNat k9), .int 99, .ref c2, .ref ps2, .ref pr, .int 0, .int 0, .int ((-1)), .ref l2, .long 0])), (c2, .inr (3, [.int 0, .ref em, .int 0])), (ps2, .inr (3, [.int 0, .ref em, .int 0])), (pr, .inl (cP, 2, .inr (.inr (.inr (.inr ((tw_two r0 r1))))))), (r0, .inl (cR, 24, .inr (.inr (.inr (.inr ((fun _ => none))))))), (r1, .inl (cR, 24, .inr (.inr (.inr (.inr ((fun _ => none)))))))]) hD hS hA [0, 1, 2, 3, 4, 5] rfl
      refine va_callv (va_runV (As := []) (rest := []) ⟨hx, hb, hml, hown, hts⟩ (c_X6_passes l hst em kw kb D mm (Int32.ofNat k9) c2 ps2 pr l2 cP r0 cR r1 (tw_nneg hk9 hn9) _) (cwV 0 hts gX6_pass_X6_passes rfl rfl rfl (by decide +kernel) ⟨(Nat.le_of_ble_eq_true rfl), (Nat.le_of_ble_eq_true rfl)⟩) (tw_preV hF hS hFc hPc hKc hDc (va_recv hKc hPc (ci := 10) (q0 := 0) rfl rfl)) rfl rfl hl.1 rfl (lv_room (Nat.le_of_ble_eq_true rfl)) dX6_pass_24 ⟨(by show _ + 42 ≤ 4200; omega), (by show _ + 168 ≤ 16800; omega)⟩) hS (fun q _ h => hFc q h) hFc (fun u t H locs ht hvm hw hB hz1 hk1 hS => ?_)
      subst hw
      obtain ⟨hP, hD, hK⟩ := tw_join (wr := []) hP hD hK [0, 1, 2, 3, 4, 5] [] rfl rfl (by decide) (by decide) hk1 hFc ht hvm hB
      have hP : va_P D vwCl [(mm, .inr (10, [.int 0, .int 9, .int ((Int32.ofNat k9) + (1 : Int32)), .int 99, .ref c2, .ref ps2, .ref pr, .int 0, .int 0, .int ((-1)), .ref l2, .long 0])), (c2, .inr (3, [.int 0, .ref em, .int 0])), (ps2, .inr (3, [.int 0, .ref em, .int 0])), (pr, .inl (cP, 2, .inr (.inr (.inr (.inr ((tw_two r0 r1))))))), (r0, .inl (cR, 24, .inr (.inr (.inr (.inr ((fun _ => none))))))), (r1, .inl (cR, 24, .inr (.inr (.inr (.inr ((fun _ => none)))))))] _ := hP
      have hD : va_D A [(mm, .inr (10, [.int 0, .int 9, .int ((Int32.ofNat k9) + (1 : Int32)), .int 99, .ref c2, .ref ps2, .ref pr, .int 0, .int 0, .int ((-1)), .ref l2, .long 0])), (c2, .inr (3, [.int 0, .ref em, .int 0])), (ps2, .inr (3, [.int 0, .ref em, .int 0])), (pr, .inl (cP, 2, .inr (.inr (.inr (.inr ((tw_two r0 r1))))))), (r0, .inl (cR, 24, .inr (.inr (.inr (.inr ((fun _ => none))))))), (r1, .inl (cR, 24, .inr (.inr (.inr (.inr ((fun _ => none)))))))] := hD
      have hK : va_K D vwCl [(cP, .array (.object "TowerliftryModel$Car")), (cR, .object "TowerliftryModel$Car")] s := hK
      refine W.widen (k := (kc9 + 42)) (n := (ks9 + 168)) (Nat.le_refl _) (Nat.le_refl _) ?_
      refine W.eq (g2 := F0 m 27 ls []) rfl ?_
      refine lv_iinc (v := ((Int32.ofNat k9) + 1)) (lv' := [(2, .int ((Int32.ofNat k9) + 1)), (0, .ref mm), (1, .int p0)]) hx hb dX6_pass_27 hl (k := 0) rfl rfl (by decide) rfl (fun ls hl => ?_)
      refine lv_goto (tgt := 18) hx hb dX6_pass_30 (by decide) ?_
      rw [tw_succ] at hl hP hD
      exact hgo (ls, H, locs, kc9 + 42, ks9 + 168) ⟨hl, hP, hD, hS, (by show kc9 + 42 = 42 * (k9 + 1); omega), (by show ks9 + 168 = 168 * (k9 + 1); omega)⟩
    · rintro ⟨ls, H, locs, kc9, ks9⟩ ⟨hl, hP, hD, hS, hkc, hks⟩
      have hkc : kc9 = 42 * n9 := hkc
      have hks : ks9 = 168 * n9 := hks
      show W p l e _ s m _ below meth c H locs kc9 ks9 _ (F0 m 18 ls [])
      refine W.widen (k := 4200) (n := 16800) (by omega) (by omega) ?_
      have hl : lv_has ls 3 [(2, .int (Int32.ofNat n9)), (0, .ref mm), (1, .int p0)] := hl
      have hP : va_P D vwCl [(mm, .inr (10, [.int 0, .int 9, .int (Int32.ofNat n9), .int 99, .ref c2, .ref ps2, .ref pr, .int 0, .int 0, .int ((-1)), .ref l2, .long 0])), (c2, .inr (3, [.int 0, .ref em, .int 0])), (ps2, .inr (3, [.int 0, .ref em, .int 0])), (pr, .inl (cP, 2, .inr (.inr (.inr (.inr ((tw_two r0 r1))))))), (r0, .inl (cR, 24, .inr (.inr (.inr (.inr ((fun _ => none))))))), (r1, .inl (cR, 24, .inr (.inr (.inr (.inr ((fun _ => none)))))))] H := hP
      have hD : va_D A [(mm, .inr (10, [.int 0, .int 9, .int (Int32.ofNat n9), .int 99, .ref c2, .ref ps2, .ref pr, .int 0, .int 0, .int ((-1)), .ref l2, .long 0])), (c2, .inr (3, [.int 0, .ref em, .int 0])), (ps2, .inr (3, [.int 0, .ref em, .int 0])), (pr, .inl (cP, 2, .inr (.inr (.inr (.inr ((tw_two r0 r1))))))), (r0, .inl (cR, 24, .inr (.inr (.inr (.inr ((fun _ => none))))))), (r1, .inl (cR, 24, .inr (.inr (.inr (.inr ((fun _ => none)))))))] := hD
      have hS : va_S A s.heap H locs := hS
      rw [hp9] at hl hP hD
      refine lv_iload_n hx hb dX6_pass_18 rfl (lv_at hl 0 rfl) ?_
      refine lv_iload_n hx hb dX6_pass_19 rfl (lv_at hl 2 rfl) ?_
      refine lv_icmp_ge (tgt := 33) hx hb dX6_pass_20 (by decide) (fun _ => ?_) (fun c9 => absurd (Int32.le_refl p0) c9)
      refine lv_aload_n hx hb dX6_pass_33 rfl (lv_at hl 1 rfl) ?_
      refine lv_aload_n hx hb dX6_pass_34 rfl (lv_at hl 1 rfl) ?_
      refine va_get (D := D) (ci := 10) (v := .int p0) (C := RX6) (T := TX6) (N := 12) hx hb hts hiRX6 hown hK hP 0 rfl rfl 2 (by decide) (hts (.fieldLink RX6 179 "TowerliftryModel" "tick" "I") (by decide +kernel)) (fun _ h9 => h9) rfl dX6_pass_35 ?_
      have hPc := hP.sub (ws' := [(mm, .inr (10, [.int 0, .int 9, .int p0, .int 99, .ref c2, .ref ps2, .ref pr, .int 0, .int 0, .int ((-1)), .ref l2, .long 0]))]) [0] rfl
      have hDc := hD.sub (ws' := [(mm, .inr (10, [.int 0, .int 9, .int p0, .int 99, .ref c2, .ref ps2, .ref pr, .int 0, .int 0, .int ((-1)), .ref l2, .long 0]))]) [0] (by decide) rfl
      have hKc := hK.sub (tys' := []) [] rfl
      have hFc := va_free (wc := [(mm, .inr (10, [.int 0, .int 9, .int p0, .int 99, .ref c2, .ref ps2, .ref pr, .int 0, .int 0, .int ((-1)), .ref l2, .long 0]))]) hD hS hA [0] rfl
      refine va_calli (va_runV (As := [.int p0]) (rest := []) ⟨hx, hb, hml, hown, hts⟩ (c_X6_tells l hst em kw kb D mm p0 0 9 p0 99 c2 ps2 pr 0 0 ((-1)) l2 0 _) (cwV 1 hts gX6_pass_X6_tells rfl rfl rfl (by decide +kernel) ⟨(Nat.le_of_ble_eq_true rfl), (Nat.le_of_ble_eq_true rfl)⟩) (tw_preV hF hS hFc hPc hKc hDc (va_recv hKc hPc (ci := 10) (q0 := 0) rfl rfl)) rfl rfl hl.1 rfl (lv_room (Nat.le_of_ble_eq_true rfl)) dX6_pass_38 ⟨(Nat.le_of_ble_eq_true rfl), (Nat.le_of_ble_eq_true rfl)⟩) hS (fun q _ h => hFc q h) hFc (fun r u t H locs ht hvm hw hB hz1 hk1 hS => ?_)
      obtain ⟨hr9, rfl⟩ := hw
      subst r
      obtain ⟨hP, hD, hK⟩ := tw_join (wr := [(c2, .inr (3, [.int 0, .ref em, .int 0])), (ps2, .inr (3, [.int 0, .ref em, .int 0])), (pr, .inl (cP, 2, .inr (.inr (.inr (.inr ((tw_two r0 r1))))))), (r0, .inl (cR, 24, .inr (.inr (.inr (.inr ((fun _ => none))))))), (r1, .inl (cR, 24, .inr (.inr (.inr (.inr ((fun _ => none)))))))]) hP hD hK [0] [1, 2, 3, 4, 5] rfl rfl (by decide) (by decide) hk1 hFc ht hvm hB
      have hP : va_P D vwCl [(c2, .inr (3, [.int 0, .ref em, .int 0])), (ps2, .inr (3, [.int 0, .ref em, .int 0])), (pr, .inl (cP, 2, .inr (.inr (.inr (.inr ((tw_two r0 r1))))))), (r0, .inl (cR, 24, .inr (.inr (.inr (.inr ((fun _ => none))))))), (r1, .inl (cR, 24, .inr (.inr (.inr (.inr ((fun _ => none))))))), (mm, .inr (10, [.int 0, .int 9, .int p0, .int 99, .ref c2, .ref ps2, .ref pr, .int 0, .int 0, .int ((-1)), .ref l2, .long 0]))] _ := hP
      have hD : va_D A [(c2, .inr (3, [.int 0, .ref em, .int 0])), (ps2, .inr (3, [.int 0, .ref em, .int 0])), (pr, .inl (cP, 2, .inr (.inr (.inr (.inr ((tw_two r0 r1))))))), (r0, .inl (cR, 24, .inr (.inr (.inr (.inr ((fun _ => none))))))), (r1, .inl (cR, 24, .inr (.inr (.inr (.inr ((fun _ => none))))))), (mm, .inr (10, [.int 0, .int 9, .int p0, .int 99, .ref c2, .ref ps2, .ref pr, .int 0, .int 0, .int ((-1)), .ref l2, .long 0]))] := hD
      have hK : va_K D vwCl [(cP, .array (.object "TowerliftryModel$Car")), (cR, .object "TowerliftryModel$Car")] s := hK
      refine W.widen (k := 4200) (n := 16800) (Nat.le_refl _) (Nat.le_refl _) ?_
      refine W.eq (g2 := F0 m 41 ls [.int p0]) rfl ?_
      refine W.widen (k := 4200) (n := 16800) (Nat.le_of_ble_eq_true rfl) (Nat.le_of_ble_eq_true rfl) ?_
      have hP9 := hP.sub (ws' := [(mm, .inr (10, [.int 0, .int 9, .int p0, .int 99, .ref c2, .ref ps2, .ref pr, .int 0, .int 0, .int ((-1)), .ref l2, .long 0]))]) [5] rfl
      have hD9 := hD.sub (ws' := [(mm, .inr (10, [.int 0, .int 9, .int p0, .int 99, .ref c2, .ref ps2, .ref pr, .int 0, .int 0, .int ((-1)), .ref l2, .long 0]))]) [5] (by decide) rfl
      have hK9 := hK.sub (tys' := []) [] rfl
      exact W.iret (v := p0) hx hb hr (fun t ht hW => ⟨⟨p0, ([(mm, .inr (10, [.int 0, .int 9, .int p0, .int 99, .ref c2, .ref ps2, .ref pr, .int 0, .int 0, .int ((-1)), .ref l2, .long 0]))], []), rfl, (Or.inr (⟨g_2, rfl, rfl⟩)), by rw [ht]; exact hP9, va_K.moved hW.alike hK9, hD9⟩, hS.F ht⟩) hS.2.2 dX6_pass_41
