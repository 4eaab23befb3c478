theorem dX6_init_0 : decode cX6_init 0 = .ok (.aload_n 0, 1) := by decide +kernel
theorem dX6_init_1 : decode cX6_init 1 = .ok (.invokespecial 1, 3) := by decide +kernel
theorem dX6_init_4 : decode cX6_init 4 = .ok (.aload_n 0, 1) := by decide +kernel
theorem dX6_init_5 : decode cX6_init 5 = .ok (.bipush 9, 2) := by decide +kernel
theorem dX6_init_7 : decode cX6_init 7 = .ok (.putfield 7, 3) := by decide +kernel
theorem dX6_init_10 : decode cX6_init 10 = .ok (.aload_n 0, 1) := by decide +kernel
theorem dX6_init_11 : decode cX6_init 11 = .ok (.bipush 99, 2) := by decide +kernel
theorem dX6_init_13 : decode cX6_init 13 = .ok (.putfield 13, 3) := by decide +kernel
theorem dX6_init_16 : decode cX6_init 16 = .ok (.aload_n 0, 1) := by decide +kernel
theorem dX6_init_17 : decode cX6_init 17 = .ok (.new 17, 3) := by decide +kernel
theorem dX6_init_20 : decode cX6_init 20 = .ok (.dup, 1) := by decide +kernel
set_option maxRecDepth 20000 in
theorem ggX6_init_Jx4a65c_init_da8c8 : GoodIn wsX6_init wsJx4a65c_init_da8c8 := goodIn_r _ [16, 17, 18, 19, 20, 21, 22, 23, 24, 25, 26, 27, 28, 2, 3, 41, 42, 43] (by decide +kernel) (by decide +kernel)
set_option maxRecDepth 20000 in
theorem gX6_init_Jx4a65c_init_da8c8 : GoodIn wsX6_init (wsJx4a65c_init_da8c8) := ggX6_init_Jx4a65c_init_da8c8
theorem dX6_init_21 : decode cX6_init 21 = .ok (.invokespecial 19, 3) := by decide +kernel
theorem dX6_init_24 : decode cX6_init 24 = .ok (.putfield 20, 3) := by decide +kernel
theorem dX6_init_27 : decode cX6_init 27 = .ok (.aload_n 0, 1) := by decide +kernel
theorem dX6_init_28 : decode cX6_init 28 = .ok (.new 17, 3) := by decide +kernel
theorem dX6_init_31 : decode cX6_init 31 = .ok (.dup, 1) := by decide +kernel
theorem dX6_init_32 : decode cX6_init 32 = .ok (.invokespecial 19, 3) := by decide +kernel
theorem dX6_init_35 : decode cX6_init 35 = .ok (.putfield 24, 3) := by decide +kernel
theorem dX6_init_38 : decode cX6_init 38 = .ok (.aload_n 0, 1) := by decide +kernel
theorem dX6_init_39 : decode cX6_init 39 = .ok (.iconst 2, 1) := by decide +kernel
theorem dX6_init_40 : decode cX6_init 40 = .ok (.bipush 24, 2) := by decide +kernel
theorem dX6_init_42 : decode cX6_init 42 = .ok (.multianewarray 27 2, 4) := by decide +kernel
theorem dX6_init_46 : decode cX6_init 46 = .ok (.putfield 29, 3) := by decide +kernel
theorem dX6_init_49 : decode cX6_init 49 = .ok (.aload_n 0, 1) := by decide +kernel
theorem dX6_init_50 : decode cX6_init 50 = .ok (.iconst (-1), 1) := by decide +kernel
theorem dX6_init_51 : decode cX6_init 51 = .ok (.putfield 32, 3) := by decide +kernel
theorem dX6_init_54 : decode cX6_init 54 = .ok (.aload_n 0, 1) := by decide +kernel
theorem dX6_init_55 : decode cX6_init 55 = .ok (.new 17, 3) := by decide +kernel
theorem dX6_init_58 : decode cX6_init 58 = .ok (.dup, 1) := by decide +kernel
theorem dX6_init_59 : decode cX6_init 59 = .ok (.invokespecial 19, 3) := by decide +kernel
theorem dX6_init_62 : decode cX6_init 62 = .ok (.putfield 35, 3) := by decide +kernel
theorem dX6_init_65 : decode cX6_init 65 = .ok (.return_, 1) := by decide +kernel
theorem dX4_init_0 : decode cX4_init 0 = .ok (.aload_n 0, 1) := by decide +kernel
theorem dX4_init_1 : decode cX4_init 1 = .ok (.aload_n 1, 1) := by decide +kernel
theorem dX4_init_2 : decode cX4_init 2 = .ok (.putfield 3, 3) := by decide +kernel
theorem dX4_init_5 : decode cX4_init 5 = .ok (.aload_n 0, 1) := by decide +kernel
theorem dX4_init_6 : decode cX4_init 6 = .ok (.invokespecial 9, 3) := by decide +kernel
theorem dX4_init_9 : decode cX4_init 9 = .ok (.aload_n 0, 1) := by decide +kernel
theorem dX4_init_10 : decode cX4_init 10 = .ok (.iconst (-1), 1) := by decide +kernel
theorem dX4_init_11 : decode cX4_init 11 = .ok (.putfield 15, 3) := by decide +kernel
theorem dX4_init_14 : decode cX4_init 14 = .ok (.aload_n 0, 1) := by decide +kernel
theorem dX4_init_15 : decode cX4_init 15 = .ok (.iload_n 2, 1) := by decide +kernel
theorem dX4_init_16 : decode cX4_init 16 = .ok (.putfield 19, 3) := by decide +kernel
theorem dX4_init_19 : decode cX4_init 19 = .ok (.aload_n 0, 1) := by decide +kernel
theorem dX4_init_20 : decode cX4_init 20 = .ok (.iload_n 3, 1) := by decide +kernel
theorem dX4_init_21 : decode cX4_init 21 = .ok (.putfield 22, 3) := by decide +kernel
theorem dX4_init_24 : decode cX4_init 24 = .ok (.aload_n 0, 1) := by decide +kernel
theorem dX4_init_25 : decode cX4_init 25 = .ok (.iload 4, 2) := by decide +kernel
theorem dX4_init_27 : decode cX4_init 27 = .ok (.putfield 25, 3) := by decide +kernel
theorem dX4_init_30 : decode cX4_init 30 = .ok (.aload_n 0, 1) := by decide +kernel
theorem dX4_init_31 : decode cX4_init 31 = .ok (.iload 5, 2) := by decide +kernel
theorem dX4_init_33 : decode cX4_init 33 = .ok (.putfield 28, 3) := by decide +kernel
theorem dX4_init_36 : decode cX4_init 36 = .ok (.aload_n 0, 1) := by decide +kernel
theorem dX4_init_37 : decode cX4_init 37 = .ok (.aload 6, 2) := by decide +kernel
theorem dX4_init_39 : decode cX4_init 39 = .ok (.ifnull 7, 3) := by decide +kernel
theorem dX4_init_46 : decode cX4_init 46 = .ok (.iconst 0, 1) := by decide +kernel
theorem dX4_init_47 : decode cX4_init 47 = .ok (.putfield 31, 3) := by decide +kernel
theorem dX4_init_50 : decode cX4_init 50 = .ok (.aload_n 0, 1) := by decide +kernel
theorem dX4_init_51 : decode cX4_init 51 = .ok (.aload_n 0, 1) := by decide +kernel
theorem dX4_init_52 : decode cX4_init 52 = .ok (.getfield 31, 3) := by decide +kernel
theorem dX4_init_55 : decode cX4_init 55 = .ok (.ifCond .eq 7, 3) := by decide +kernel
theorem dX4_init_62 : decode cX4_init 62 = .ok (.iconst 0, 1) := by decide +kernel
theorem dX4_init_63 : decode cX4_init 63 = .ok (.putfield 35, 3) := by decide +kernel
theorem dX4_init_66 : decode cX4_init 66 = .ok (.aload_n 0, 1) := by decide +kernel
theorem dX4_init_67 : decode cX4_init 67 = .ok (.aload_n 0, 1) := by decide +kernel
theorem dX4_init_68 : decode cX4_init 68 = .ok (.getfield 35, 3) := by decide +kernel
theorem dX4_init_71 : decode cX4_init 71 = .ok (.putfield 38, 3) := by decide +kernel
theorem dX4_init_74 : decode cX4_init 74 = .ok (.aload_n 0, 1) := by decide +kernel
theorem dX4_init_75 : decode cX4_init 75 = .ok (.aload 6, 2) := by decide +kernel
theorem dX4_init_77 : decode cX4_init 77 = .ok (.putfield 41, 3) := by decide +kernel
theorem dX4_init_80 : decode cX4_init 80 = .ok (.aload_n 0, 1) := by decide +kernel
theorem dX4_init_81 : decode cX4_init 81 = .ok (.getfield 31, 3) := by decide +kernel
theorem dX4_init_84 : decode cX4_init 84 = .ok (.ifCond .eq 9, 3) := by decide +kernel
theorem dX4_init_93 : decode cX4_init 93 = .ok (.return_, 1) := by decide +kernel
theorem dX5_init_0 : decode cX5_init 0 = .ok (.aload_n 0, 1) := by decide +kernel
theorem dX5_init_1 : decode cX5_init 1 = .ok (.invokespecial 1, 3) := by decide +kernel
theorem dX5_init_4 : decode cX5_init 4 = .ok (.aload_n 0, 1) := by decide +kernel
theorem dX5_init_5 : decode cX5_init 5 = .ok (.bipush 119, 2) := by decide +kernel
theorem dX5_init_7 : decode cX5_init 7 = .ok (.putfield 7, 3) := by decide +kernel
theorem dX5_init_10 : decode cX5_init 10 = .ok (.aload_n 0, 1) := by decide +kernel
theorem dX5_init_11 : decode cX5_init 11 = .ok (.iload_n 1, 1) := by decide +kernel
theorem dX5_init_12 : decode cX5_init 12 = .ok (.putfield 13, 3) := by decide +kernel
theorem dX5_init_15 : decode cX5_init 15 = .ok (.aload_n 0, 1) := by decide +kernel
theorem dX5_init_16 : decode cX5_init 16 = .ok (.iload_n 2, 1) := by decide +kernel
theorem dX5_init_17 : decode cX5_init 17 = .ok (.putfield 17, 3) := by decide +kernel
theorem dX5_init_20 : decode cX5_init 20 = .ok (.aload_n 0, 1) := by decide +kernel
theorem dX5_init_21 : decode cX5_init 21 = .ok (.iload_n 3, 1) := by decide +kernel
theorem dX5_init_22 : decode cX5_init 22 = .ok (.putfield 20, 3) := by decide +kernel
theorem dX5_init_25 : decode cX5_init 25 = .ok (.aload_n 0, 1) := by decide +kernel
theorem dX5_init_26 : decode cX5_init 26 = .ok (.iload 4, 2) := by decide +kernel
theorem dX5_init_28 : decode cX5_init 28 = .ok (.putfield 23, 3) := by decide +kernel
theorem dX5_init_31 : decode cX5_init 31 = .ok (.aload_n 0, 1) := by decide +kernel
theorem dX5_init_32 : decode cX5_init 32 = .ok (.iload 5, 2) := by decide +kernel
theorem dX5_init_34 : decode cX5_init 34 = .ok (.putfield 26, 3) := by decide +kernel
theorem dX5_init_37 : decode cX5_init 37 = .ok (.return_, 1) := by decide +kernel
set_option maxHeartbeats 4000000 in
set_option maxRecDepth 100000 in
theorem c_X6_init (l : Launch) (hst : l.stackTraces = false) (em kw kb : Nat) (D : va_G) (mm : Nat) (sz : Nat) : Met l yX6_init wsX6_init ({ frames := 4, cells := 6, slots := 59, locals := 72 }) (va_Pc [.ref mm] (tw_Pre em kw kb D sz [(mm, .inr (10, [.int 0, .int 0, .int 0, .int 0, .null, .null, .null, .int 0, .int 0, .int 0, .null, .long 0]))] [])) (va_Qv (fun (u : tw_U) => ∃ (w0 : Nat) (w1 : Nat) (w2 : Nat) (w3 : Nat) (w4 : Nat) (w5 : ClassId) (w6 : ClassId) (w7 : Nat), u = ([(mm, .inr (10, [.int 0, .int 9, .int 0, .int 99, .ref w0, .ref w1, .ref w2, .int 0, .int 0, .int ((-1)), .ref w7, .long 0])), (w0, .inr (3, [.int 0, .ref em, .int 0])), (w1, .inr (3, [.int 0, .ref em, .int 0])), (w2, .inl (w5, 2, .inr (.inr (.inr (.inr ((tw_two w3 w4))))))), (w3, .inl (w6, 24, .inr (.inr (.inr (.inr ((fun _ => none))))))), (w4, .inl (w6, 24, .inr (.inr (.inr (.inr ((fun _ => none))))))), (w7, .inr (3, [.int 0, .ref em, .int 0]))], [(w5, .array (.object "TowerliftryModel$Car")), (w6, .object "TowerliftryModel$Car")])) (tw_B D (va_A [(mm, .inr (10, [.int 0, .int 0, .int 0, .int 0, .null, .null, .null, .int 0, .int 0, .int 0, .null, .long 0]))] sz)) (va_A [(mm, .inr (10, [.int 0, .int 0, .int 0, .int 0, .null, .null, .null, .int 0, .int 0, .int 0, .null, .long 0]))] sz)) 6 59 (va_A [(mm, .inr (10, [.int 0, .int 0, .int 0, .int 0, .null, .null, .null, .int 0, .int 0, .int 0, .null, .long 0]))] sz) := by
  refine Met.ofW (cc := cX6_init) (maxL := 1) (ret := none) (by decide) rfl ?_
  intro p e s m args below meth c s₁ B hml hv
  obtain ⟨rfl, hsz, hP, hK, hD0, hF⟩ := hv
  have hx := B.exec
  have hb := B.bytes
  have hr := B.returns
  have hts := atoms_spec (ws := wsX6_init) B.pre
  have hown : s.vm.findClass RX6 = some m.cls := findClass_of_methodNamed B.named
  have hlocks := B.notSynchronized
  have hin : meth.name = "<init>" := (name_of_methodNamed B.named B.method).1
  have hiRX6 : ∀ w ∈ u_ws RX6 TX6 12, w ∈ wsX6_init := by decide +kernel
  have hiRJx4a65c : ∀ w ∈ u_ws RJx4a65c TJx4a65c 3, w ∈ wsX6_init := by decide +kernel
  subst hsz
  have hD := hD0.self (sz := s.heap.size)
  generalize hAe : va_A [(mm, .inr (10, [.int 0, .int 0, .int 0, .int 0, .null, .null, .null, .int 0, .int 0, .int 0, .null, .long 0]))] s.heap.size = A at hD hF ⊢
  have hA : ∀ q : Nat, s.heap.size ≤ q → A q := fun q h => by rw [← hAe]; exact Or.inr h
  have hS : va_S A s.heap s.heap [] := va_S.rf
  have hP : va_P D vwCl [(mm, .inr (10, [.int 0, .int 0, .int 0, .int 0, .null, .null, .null, .int 0, .int 0, .int 0, .null, .long 0]))] s.heap := hP
  have hl := lv_entry ([.ref mm]) (n := 1) (Nat.le_of_ble_eq_true rfl)
  rw [lg_entry_eq]
  generalize (lg_sl ([.ref mm]) ++ List.replicate (1 - (lg_sl ([.ref mm])).length) Slot.unset).toArray = ls at hl ⊢
  have hl : lv_has ls 1 [(0, .ref mm)] := hl
  refine lv_aload_n hx hb dX6_init_0 rfl (lv_at hl 0 rfl) ?_
  refine W.objInit hx hb hown (hts (.methodLink RX6 1 objectInit) (by decide +kernel)) (hts (.instanceMethod objectInit) (by decide +kernel)) (hts (.code objectInit ⟨#[0xb1]⟩ 1 none) (by decide +kernel)) rfl (by rw [hml]; exact hl.1) rfl dX6_init_1 (Nat.le_of_ble_eq_true rfl) (Nat.le_of_ble_eq_true rfl) ?_
  refine W.eq (g2 := F0 m 4 ls []) rfl ?_
  refine lv_aload_n hx hb dX6_init_4 rfl (lv_at hl 0 rfl) ?_
  refine lv_bipush (v := 9) hx hb dX6_init_5 (by decide) ?_
  refine va_put (D := D) (ci := 10) (v := .int 9) (ty := .int) (C := RX6) (T := TX6) (N := 12) hx hb hts hiRX6 tyX6 tyX6_ok nmX6 hown hK hP hD hS 0 rfl rfl 1 (by decide) (hts (.fieldLink RX6 7 "TowerliftryModel" "top" "I") (by decide +kernel)) (fun _ h9 => h9) rfl (by decide +kernel) rfl rfl (Nat.le_of_ble_eq_true rfl) dX6_init_7 (fun H locs hP hD hS => ?_)
  have hP : va_P D vwCl [(mm, .inr (10, [.int 0, .int 9, .int 0, .int 0, .null, .null, .null, .int 0, .int 0, .int 0, .null, .long 0]))] _ := hP
  have hD : va_D A [(mm, .inr (10, [.int 0, .int 9, .int 0, .int 0, .null, .null, .null, .int 0, .int 0, .int 0, .null, .long 0]))] := hD
  refine lv_aload_n hx hb dX6_init_10 rfl (lv_at hl 0 rfl) ?_
  refine lv_bipush (v := 99) hx hb dX6_init_11 (by decide) ?_
  refine va_put (D := D) (ci := 10) (v := .int 99) (ty := .char) (C := RX6) (T := TX6) (N := 12) hx hb hts hiRX6 tyX6 tyX6_ok nmX6 hown hK hP hD hS 0 rfl rfl 3 (by decide) (hts (.fieldLink RX6 13 "TowerliftryModel" "dispatcher" "C") (by decide +kernel)) (fun _ h9 => h9) rfl (by decide +kernel) (by decide) (by decide) (Nat.le_of_ble_eq_true rfl) dX6_init_13 (fun H locs hP hD hS => ?_)
  have hP : va_P D vwCl [(mm, .inr (10, [.int 0, .int 9, .int 0, .int 99, .null, .null, .null, .int 0, .int 0, .int 0, .null, .long 0]))] _ := hP
  have hD : va_D A [(mm, .inr (10, [.int 0, .int 9, .int 0, .int 99, .null, .null, .null, .int 0, .int 0, .int 0, .null, .long 0]))] := hD
  refine lv_aload_n hx hb dX6_init_16 rfl (lv_at hl 0 rfl) ?_
  refine va_new (ci := 3) (fs := [.int 0, .null, .int 0]) (C := RJx4a65c) (T := TJx4a65c) (N := 3) hx hb hts hiRJx4a65c tyJx4a65c tyJx4a65c_ok hown (hts (.classLink RX6 17 RJx4a65c) (by decide +kernel)) (hts (.instantiable RJx4a65c 3) (by decide +kernel)) (hts (.initialized RJx4a65c) (by decide +kernel)) hK hP hD hS hA rfl (by decide +kernel) (Nat.le_of_ble_eq_true rfl) (Nat.le_of_ble_eq_true rfl) dX6_init_17 (fun q_1 H hP hD hS => ?_)
  have hP : va_P D vwCl [(mm, .inr (10, [.int 0, .int 9, .int 0, .int 99, .null, .null, .null, .int 0, .int 0, .int 0, .null, .long 0])), (q_1, .inr (3, [.int 0, .null, .int 0]))] _ := hP
  have hD : va_D A [(mm, .inr (10, [.int 0, .int 9, .int 0, .int 99, .null, .null, .null, .int 0, .int 0, .int 0, .null, .long 0])), (q_1, .inr (3, [.int 0, .null, .int 0]))] := hD
  refine W.widen (k := 1) (n := 3) (Nat.le_refl _) (Nat.le_refl _) ?_
  refine lv_dup hx hb dX6_init_20 rfl ?_
  have hPc := hP.sub (ws' := [(q_1, .inr (3, [.int 0, .null, .int 0]))]) [1] rfl
  have hDc := hD.sub (ws' := [(q_1, .inr (3, [.int 0, .null, .int 0]))]) [1] (by decide) rfl
  have hKc := hK.sub (tys' := []) [] rfl
  have hFc := va_free (wc := [(q_1, .inr (3, [.int 0, .null, .int 0]))]) hD hS hA [1] rfl
  refine va_callv (va_runI (As := []) (rest := [.ref q_1, .ref mm]) ⟨hx, hb, hml, hown, hts⟩ (c_Jx4a65c_init_da8c8 l hst em kw kb D q_1 _) (cwI 0 hts gX6_init_Jx4a65c_init_da8c8 rfl rfl rfl (hts (.initialized RJx4a65c) (by decide +kernel)) (hts (.methodLink RX6 19 yJx4a65c_init_da8c8) (by decide +kernel)) (hts (.instanceMethod yJx4a65c_init_da8c8) (by decide +kernel)) rfl (by decide +kernel) ⟨(Nat.le_of_ble_eq_true rfl), (Nat.le_of_ble_eq_true rfl)⟩) (tw_preS hF hS hFc hPc hKc hDc) rfl rfl hl.1 rfl (lv_room (Nat.le_of_ble_eq_true rfl)) dX6_init_21 ⟨(Nat.le_of_ble_eq_true rfl), (Nat.le_of_ble_eq_true rfl)⟩) hS (fun q _ h => hFc q h) hFc (fun u t H locs ht hvm hw hB hz1 hk1 hS => ?_)
  subst hw
  obtain ⟨hP, hD, hK⟩ := tw_join (wr := [(mm, .inr (10, [.int 0, .int 9, .int 0, .int 99, .null, .null, .null, .int 0, .int 0, .int 0, .null, .long 0]))]) hP hD hK [1] [0] rfl rfl (by decide) (by decide) hk1 hFc ht hvm hB
  have hP : va_P D vwCl [(mm, .inr (10, [.int 0, .int 9, .int 0, .int 99, .null, .null, .null, .int 0, .int 0, .int 0, .null, .long 0])), (q_1, .inr (3, [.int 0, .ref em, .int 0]))] _ := hP
  have hD : va_D A [(mm, .inr (10, [.int 0, .int 9, .int 0, .int 99, .null, .null, .null, .int 0, .int 0, .int 0, .null, .long 0])), (q_1, .inr (3, [.int 0, .ref em, .int 0]))] := hD
  have hK : va_K D vwCl [] s := hK
  refine W.widen (k := 1) (n := 3) (Nat.le_refl _) (Nat.le_refl _) ?_
  refine W.eq (g2 := F0 m 24 ls [.ref q_1, .ref mm]) rfl ?_
  refine va_putF (D := D) (ci := 10) (v := .ref q_1) (ty := .object "java/util/ArrayList") (C := RX6) (T := TX6) (N := 12) hx hb hts hiRX6 tyX6 tyX6_ok nmX6 hown hK hP hD hS 0 rfl rfl 4 (by decide) (hts (.fieldLink RX6 20 "TowerliftryModel" "cars" "Ljava/util/ArrayList;") (by decide +kernel)) (fun _ h9 => h9) rfl hin rfl (by decide +kernel) rfl rfl (Nat.le_of_ble_eq_true rfl) dX6_init_24 (fun H locs hP hD hS => ?_)
  have hP : va_P D vwCl [(mm, .inr (10, [.int 0, .int 9, .int 0, .int 99, .ref q_1, .null, .null, .int 0, .int 0, .int 0, .null, .long 0])), (q_1, .inr (3, [.int 0, .ref em, .int 0]))] _ := hP
  have hD : va_D A [(mm, .inr (10, [.int 0, .int 9, .int 0, .int 99, .ref q_1, .null, .null, .int 0, .int 0, .int 0, .null, .long 0])), (q_1, .inr (3, [.int 0, .ref em, .int 0]))] := hD
  refine lv_aload_n hx hb dX6_init_27 rfl (lv_at hl 0 rfl) ?_
  refine va_new (ci := 3) (fs := [.int 0, .null, .int 0]) (C := RJx4a65c) (T := TJx4a65c) (N := 3) hx hb hts hiRJx4a65c tyJx4a65c tyJx4a65c_ok hown (hts (.classLink RX6 17 RJx4a65c) (by decide +kernel)) (hts (.instantiable RJx4a65c 3) (by decide +kernel)) (hts (.initialized RJx4a65c) (by decide +kernel)) hK hP hD hS hA rfl (by decide +kernel) (Nat.le_of_ble_eq_true rfl) (Nat.le_of_ble_eq_true rfl) dX6_init_28 (fun q_2 H hP hD hS => ?_)
  have hP : va_P D vwCl [(mm, .inr (10, [.int 0, .int 9, .int 0, .int 99, .ref q_1, .null, .null, .int 0, .int 0, .int 0, .null, .long 0])), (q_1, .inr (3, [.int 0, .ref em, .int 0])), (q_2, .inr (3, [.int 0, .null, .int 0]))] _ := hP
  have hD : va_D A [(mm, .inr (10, [.int 0, .int 9, .int 0, .int 99, .ref q_1, .null, .null, .int 0, .int 0, .int 0, .null, .long 0])), (q_1, .inr (3, [.int 0, .ref em, .int 0])), (q_2, .inr (3, [.int 0, .null, .int 0]))] := hD
  refine W.widen (k := 2) (n := 6) (Nat.le_refl _) (Nat.le_refl _) ?_
  refine lv_dup hx hb dX6_init_31 rfl ?_
  have hPc := hP.sub (ws' := [(q_2, .inr (3, [.int 0, .null, .int 0]))]) [2] rfl
  have hDc := hD.sub (ws' := [(q_2, .inr (3, [.int 0, .null, .int 0]))]) [2] (by decide) rfl
  have hKc := hK.sub (tys' := []) [] rfl
  have hFc := va_free (wc := [(q_2, .inr (3, [.int 0, .null, .int 0]))]) hD hS hA [2] rfl
  refine va_callv (va_runI (As := []) (rest := [.ref q_2, .ref mm]) ⟨hx, hb, hml, hown, hts⟩ (c_Jx4a65c_init_da8c8 l hst em kw kb D q_2 _) (cwI 0 hts gX6_init_Jx4a65c_init_da8c8 rfl rfl rfl (hts (.initialized RJx4a65c) (by decide +kernel)) (hts (.methodLink RX6 19 yJx4a65c_init_da8c8) (by decide +kernel)) (hts (.instanceMethod yJx4a65c_init_da8c8) (by decide +kernel)) rfl (by decide +kernel) ⟨(Nat.le_of_ble_eq_true rfl), (Nat.le_of_ble_eq_true rfl)⟩) (tw_preS hF hS hFc hPc hKc hDc) rfl rfl hl.1 rfl (lv_room (Nat.le_of_ble_eq_true rfl)) dX6_init_32 ⟨(Nat.le_of_ble_eq_true rfl), (Nat.le_of_ble_eq_true rfl)⟩) hS (fun q _ h => hFc q h) hFc (fun u t H locs ht hvm hw hB hz1 hk1 hS => ?_)
  subst hw
  obtain ⟨hP, hD, hK⟩ := tw_join (wr := [(mm, .inr (10, [.int 0, .int 9, .int 0, .int 99, .ref q_1, .null, .null, .int 0, .int 0, .int 0, .null, .long 0])), (q_1, .inr (3, [.int 0, .ref em, .int 0]))]) hP hD hK [2] [0, 1] rfl rfl (by decide) (by decide) hk1 hFc ht hvm hB
  have hP : va_P D vwCl [(mm, .inr (10, [.int 0, .int 9, .int 0, .int 99, .ref q_1, .null, .null, .int 0, .int 0, .int 0, .null, .long 0])), (q_1, .inr (3, [.int 0, .ref em, .int 0])), (q_2, .inr (3, [.int 0, .ref em, .int 0]))] _ := hP
  have hD : va_D A [(mm, .inr (10, [.int 0, .int 9, .int 0, .int 99, .ref q_1, .null, .null, .int 0, .int 0, .int 0, .null, .long 0])), (q_1, .inr (3, [.int 0, .ref em, .int 0])), (q_2, .inr (3, [.int 0, .ref em, .int 0]))] := hD
  have hK : va_K D vwCl [] s := hK
  refine W.widen (k := 2) (n := 6) (Nat.le_refl _) (Nat.le_refl _) ?_
  refine W.eq (g2 := F0 m 35 ls [.ref q_2, .ref mm]) rfl ?_
  refine va_putF (D := D) (ci := 10) (v := .ref q_2) (ty := .object "java/util/ArrayList") (C := RX6) (T := TX6) (N := 12) hx hb hts hiRX6 tyX6 tyX6_ok nmX6 hown hK hP hD hS 0 rfl rfl 5 (by decide) (hts (.fieldLink RX6 24 "TowerliftryModel" "persons" "Ljava/util/ArrayList;") (by decide +kernel)) (fun _ h9 => h9) rfl hin rfl (by decide +kernel) rfl rfl (Nat.le_of_ble_eq_true rfl) dX6_init_35 (fun H locs hP hD hS => ?_)
  have hP : va_P D vwCl [(mm, .inr (10, [.int 0, .int 9, .int 0, .int 99, .ref q_1, .ref q_2, .null, .int 0, .int 0, .int 0, .null, .long 0])), (q_1, .inr (3, [.int 0, .ref em, .int 0])), (q_2, .inr (3, [.int 0, .ref em, .int 0]))] _ := hP
  have hD : va_D A [(mm, .inr (10, [.int 0, .int 9, .int 0, .int 99, .ref q_1, .ref q_2, .null, .int 0, .int 0, .int 0, .null, .long 0])), (q_1, .inr (3, [.int 0, .ref em, .int 0])), (q_2, .inr (3, [.int 0, .ref em, .int 0]))] := hD
  refine lv_aload_n hx hb dX6_init_38 rfl (lv_at hl 0 rfl) ?_
  refine lv_iconst (v := 2) hx hb dX6_init_39 (by decide) ?_
  refine lv_bipush (v := 24) hx hb dX6_init_40 (by decide) ?_
  refine tw_mnew hx hb hown (tw_w hF (by decide +kernel)) (tw_aa hF) (tw_aoC hF) hK hP hD hS hA (Nat.le_of_ble_eq_true rfl) (Nat.le_of_ble_eq_true rfl) dX6_init_42 (fun q_3 q_4 q_5 cA_6 cA_7 H locs hK hP hD hS => ?_)
  have hP : va_P D vwCl [(mm, .inr (10, [.int 0, .int 9, .int 0, .int 99, .ref q_1, .ref q_2, .null, .int 0, .int 0, .int 0, .null, .long 0])), (q_1, .inr (3, [.int 0, .ref em, .int 0])), (q_2, .inr (3, [.int 0, .ref em, .int 0])), (q_3, .inl (cA_6, 2, .inr (.inr (.inr (.inr ((tw_two q_4 q_5))))))), (q_4, .inl (cA_7, 24, .inr (.inr (.inr (.inr ((fun _ => none))))))), (q_5, .inl (cA_7, 24, .inr (.inr (.inr (.inr ((fun _ => none)))))))] _ := hP
  have hD : va_D A [(mm, .inr (10, [.int 0, .int 9, .int 0, .int 99, .ref q_1, .ref q_2, .null, .int 0, .int 0, .int 0, .null, .long 0])), (q_1, .inr (3, [.int 0, .ref em, .int 0])), (q_2, .inr (3, [.int 0, .ref em, .int 0])), (q_3, .inl (cA_6, 2, .inr (.inr (.inr (.inr ((tw_two q_4 q_5))))))), (q_4, .inl (cA_7, 24, .inr (.inr (.inr (.inr ((fun _ => none))))))), (q_5, .inl (cA_7, 24, .inr (.inr (.inr (.inr ((fun _ => none)))))))] := hD
  have hK : va_K D vwCl [(cA_6, .array (.object "TowerliftryModel$Car")), (cA_7, .object "TowerliftryModel$Car")] _ := hK
  refine W.widen (k := 5) (n := 56) (Nat.le_refl _) (Nat.le_refl _) ?_
  refine va_putF (D := D) (ci := 10) (v := .ref q_3) (ty := .array (.array (.object "TowerliftryModel$Car"))) (C := RX6) (T := TX6) (N := 12) hx hb hts hiRX6 tyX6 tyX6_ok nmX6 hown hK hP hD hS 0 rfl rfl 6 (by decide) (hts (.fieldLink RX6 29 "TowerliftryModel" "promises" "[[LTowerliftryModel$Car;") (by decide +kernel)) (fun _ h9 => h9) rfl hin rfl (by decide +kernel) rfl rfl (Nat.le_of_ble_eq_true rfl) dX6_init_46 (fun H locs hP hD hS => ?_)
  have hP : va_P D vwCl [(mm, .inr (10, [.int 0, .int 9, .int 0, .int 99, .ref q_1, .ref q_2, .ref q_3, .int 0, .int 0, .int 0, .null, .long 0])), (q_1, .inr (3, [.int 0, .ref em, .int 0])), (q_2, .inr (3, [.int 0, .ref em, .int 0])), (q_3, .inl (cA_6, 2, .inr (.inr (.inr (.inr ((tw_two q_4 q_5))))))), (q_4, .inl (cA_7, 24, .inr (.inr (.inr (.inr ((fun _ => none))))))), (q_5, .inl (cA_7, 24, .inr (.inr (.inr (.inr ((fun _ => none)))))))] _ := hP
  have hD : va_D A [(mm, .inr (10, [.int 0, .int 9, .int 0, .int 99, .ref q_1, .ref q_2, .ref q_3, .int 0, .int 0, .int 0, .null, .long 0])), (q_1, .inr (3, [.int 0, .ref em, .int 0])), (q_2, .inr (3, [.int 0, .ref em, .int 0])), (q_3, .inl (cA_6, 2, .inr (.inr (.inr (.inr ((tw_two q_4 q_5))))))), (q_4, .inl (cA_7, 24, .inr (.inr (.inr (.inr ((fun _ => none))))))), (q_5, .inl (cA_7, 24, .inr (.inr (.inr (.inr ((fun _ => none)))))))] := hD
  refine lv_aload_n hx hb dX6_init_49 rfl (lv_at hl 0 rfl) ?_
  refine lv_iconst (v := (-1)) hx hb dX6_init_50 (by decide) ?_
  refine va_put (D := D) (ci := 10) (v := .int ((-1))) (ty := .int) (C := RX6) (T := TX6) (N := 12) hx hb hts hiRX6 tyX6 tyX6_ok nmX6 hown hK hP hD hS 0 rfl rfl 9 (by decide) (hts (.fieldLink RX6 32 "TowerliftryModel" "fire" "I") (by decide +kernel)) (fun _ h9 => h9) rfl (by decide +kernel) rfl rfl (Nat.le_of_ble_eq_true rfl) dX6_init_51 (fun H locs hP hD hS => ?_)
  have hP : va_P D vwCl [(mm, .inr (10, [.int 0, .int 9, .int 0, .int 99, .ref q_1, .ref q_2, .ref q_3, .int 0, .int 0, .int ((-1)), .null, .long 0])), (q_1, .inr (3, [.int 0, .ref em, .int 0])), (q_2, .inr (3, [.int 0, .ref em, .int 0])), (q_3, .inl (cA_6, 2, .inr (.inr (.inr (.inr ((tw_two q_4 q_5))))))), (q_4, .inl (cA_7, 24, .inr (.inr (.inr (.inr ((fun _ => none))))))), (q_5, .inl (cA_7, 24, .inr (.inr (.inr (.inr ((fun _ => none)))))))] _ := hP
  have hD : va_D A [(mm, .inr (10, [.int 0, .int 9, .int 0, .int 99, .ref q_1, .ref q_2, .ref q_3, .int 0, .int 0, .int ((-1)), .null, .long 0])), (q_1, .inr (3, [.int 0, .ref em, .int 0])), (q_2, .inr (3, [.int 0, .ref em, .int 0])), (q_3, .inl (cA_6, 2, .inr (.inr (.inr (.inr ((tw_two q_4 q_5))))))), (q_4, .inl (cA_7, 24, .inr (.inr (.inr (.inr ((fun _ => none))))))), (q_5, .inl (cA_7, 24, .inr (.inr (.inr (.inr ((fun _ => none)))))))] := hD
  refine lv_aload_n hx hb dX6_init_54 rfl (lv_at hl 0 rfl) ?_
  refine va_new (ci := 3) (fs := [.int 0, .null, .int 0]) (C := RJx4a65c) (T := TJx4a65c) (N := 3) hx hb hts hiRJx4a65c tyJx4a65c tyJx4a65c_ok hown (hts (.classLink RX6 17 RJx4a65c) (by decide +kernel)) (hts (.instantiable RJx4a65c 3) (by decide +kernel)) (hts (.initialized RJx4a65c) (by decide +kernel)) hK hP hD hS hA rfl (by decide +kernel) (Nat.le_of_ble_eq_true rfl) (Nat.le_of_ble_eq_true rfl) dX6_init_55 (fun q_8 H hP hD hS => ?_)
  have hP : va_P D vwCl [(mm, .inr (10, [.int 0, .int 9, .int 0, .int 99, .ref q_1, .ref q_2, .ref q_3, .int 0, .int 0, .int ((-1)), .null, .long 0])), (q_1, .inr (3, [.int 0, .ref em, .int 0])), (q_2, .inr (3, [.int 0, .ref em, .int 0])), (q_3, .inl (cA_6, 2, .inr (.inr (.inr (.inr ((tw_two q_4 q_5))))))), (q_4, .inl (cA_7, 24, .inr (.inr (.inr (.inr ((fun _ => none))))))), (q_5, .inl (cA_7, 24, .inr (.inr (.inr (.inr ((fun _ => none))))))), (q_8, .inr (3, [.int 0, .null, .int 0]))] _ := hP
  have hD : va_D A [(mm, .inr (10, [.int 0, .int 9, .int 0, .int 99, .ref q_1, .ref q_2, .ref q_3, .int 0, .int 0, .int ((-1)), .null, .long 0])), (q_1, .inr (3, [.int 0, .ref em, .int 0])), (q_2, .inr (3, [.int 0, .ref em, .int 0])), (q_3, .inl (cA_6, 2, .inr (.inr (.inr (.inr ((tw_two q_4 q_5))))))), (q_4, .inl (cA_7, 24, .inr (.inr (.inr (.inr ((fun _ => none))))))), (q_5, .inl (cA_7, 24, .inr (.inr (.inr (.inr ((fun _ => none))))))), (q_8, .inr (3, [.int 0, .null, .int 0]))] := hD
  refine W.widen (k := 6) (n := 59) (Nat.le_refl _) (Nat.le_refl _) ?_
  refine lv_dup hx hb dX6_init_58 rfl ?_
  have hPc := hP.sub (ws' := [(q_8, .inr (3, [.int 0, .null, .int 0]))]) [6] rfl
  have hDc := hD.sub (ws' := [(q_8, .inr (3, [.int 0, .null, .int 0]))]) [6] (by decide) rfl
  have hKc := hK.sub (tys' := []) [] rfl
  have hFc := va_free (wc := [(q_8, .inr (3, [.int 0, .null, .int 0]))]) hD hS hA [6] rfl
  refine va_callv (va_runI (As := []) (rest := [.ref q_8, .ref mm]) ⟨hx, hb, hml, hown, hts⟩ (c_Jx4a65c_init_da8c8 l hst em kw kb D q_8 _) (cwI 0 hts gX6_init_Jx4a65c_init_da8c8 rfl rfl rfl (hts (.initialized RJx4a65c) (by decide +kernel)) (hts (.methodLink RX6 19 yJx4a65c_init_da8c8) (by decide +kernel)) (hts (.instanceMethod yJx4a65c_init_da8c8) (by decide +kernel)) rfl (by decide +kernel) ⟨(Nat.le_of_ble_eq_true rfl), (Nat.le_of_ble_eq_true rfl)⟩) (tw_preS hF hS hFc hPc hKc hDc) rfl rfl hl.1 rfl (lv_room (Nat.le_of_ble_eq_true rfl)) dX6_init_59 ⟨(Nat.le_of_ble_eq_true rfl), (Nat.le_of_ble_eq_true rfl)⟩) hS (fun q _ h => hFc q h) hFc (fun u t H locs ht hvm hw hB hz1 hk1 hS => ?_)
  subst hw
  obtain ⟨hP, hD, hK⟩ := tw_join (wr := [(mm, .inr (10, [.int 0, .int 9, .int 0, .int 99, .ref q_1, .ref q_2, .ref q_3, .int 0, .int 0, .int ((-1)), .null, .long 0])), (q_1, .inr (3, [.int 0, .ref em, .int 0])), (q_2, .inr (3, [.int 0, .ref em, .int 0])), (q_3, .inl (cA_6, 2, .inr (.inr (.inr (.inr ((tw_two q_4 q_5))))))), (q_4, .inl (cA_7, 24, .inr (.inr (.inr (.inr ((fun _ => none))))))), (q_5, .inl (cA_7, 24, .inr (.inr (.inr (.inr ((fun _ => none)))))))]) hP hD hK [6] [0, 1, 2, 3, 4, 5] rfl rfl (by decide) (by decide) hk1 hFc ht hvm hB
  have hP : va_P D vwCl [(mm, .inr (10, [.int 0, .int 9, .int 0, .int 99, .ref q_1, .ref q_2, .ref q_3, .int 0, .int 0, .int ((-1)), .null, .long 0])), (q_1, .inr (3, [.int 0, .ref em, .int 0])), (q_2, .inr (3, [.int 0, .ref em, .int 0])), (q_3, .inl (cA_6, 2, .inr (.inr (.inr (.inr ((tw_two q_4 q_5))))))), (q_4, .inl (cA_7, 24, .inr (.inr (.inr (.inr ((fun _ => none))))))), (q_5, .inl (cA_7, 24, .inr (.inr (.inr (.inr ((fun _ => none))))))), (q_8, .inr (3, [.int 0, .ref em, .int 0]))] _ := hP
  have hD : va_D A [(mm, .inr (10, [.int 0, .int 9, .int 0, .int 99, .ref q_1, .ref q_2, .ref q_3, .int 0, .int 0, .int ((-1)), .null, .long 0])), (q_1, .inr (3, [.int 0, .ref em, .int 0])), (q_2, .inr (3, [.int 0, .ref em, .int 0])), (q_3, .inl (cA_6, 2, .inr (.inr (.inr (.inr ((tw_two q_4 q_5))))))), (q_4, .inl (cA_7, 24, .inr (.inr (.inr (.inr ((fun _ => none))))))), (q_5, .inl (cA_7, 24, .inr (.inr (.inr (.inr ((fun _ => none))))))), (q_8, .inr (3, [.int 0, .ref em, .int 0]))] := hD
  have hK : va_K D vwCl [(cA_6, .array (.object "TowerliftryModel$Car")), (cA_7, .object "TowerliftryModel$Car")] s := hK
  refine W.widen (k := 6) (n := 59) (Nat.le_refl _) (Nat.le_refl _) ?_
  refine W.eq (g2 := F0 m 62 ls [.ref q_8, .ref mm]) rfl ?_
  refine va_putF (D := D) (ci := 10) (v := .ref q_8) (ty := .object "java/util/ArrayList") (C := RX6) (T := TX6) (N := 12) hx hb hts hiRX6 tyX6 tyX6_ok nmX6 hown hK hP hD hS 0 rfl rfl 10 (by decide) (hts (.fieldLink RX6 35 "TowerliftryModel" "log" "Ljava/util/ArrayList;") (by decide +kernel)) (fun _ h9 => h9) rfl hin rfl (by decide +kernel) rfl rfl (Nat.le_of_ble_eq_true rfl) dX6_init_62 (fun H locs hP hD hS => ?_)
  have hP : va_P D vwCl [(mm, .inr (10, [.int 0, .int 9, .int 0, .int 99, .ref q_1, .ref q_2, .ref q_3, .int 0, .int 0, .int ((-1)), .ref q_8, .long 0])), (q_1, .inr (3, [.int 0, .ref em, .int 0])), (q_2, .inr (3, [.int 0, .ref em, .int 0])), (q_3, .inl (cA_6, 2, .inr (.inr (.inr (.inr ((tw_two q_4 q_5))))))), (q_4, .inl (cA_7, 24, .inr (.inr (.inr (.inr ((fun _ => none))))))), (q_5, .inl (cA_7, 24, .inr (.inr (.inr (.inr ((fun _ => none))))))), (q_8, .inr (3, [.int 0, .ref em, .int 0]))] _ := hP
  have hD : va_D A [(mm, .inr (10, [.int 0, .int 9, .int 0, .int 99, .ref q_1, .ref q_2, .ref q_3, .int 0, .int 0, .int ((-1)), .ref q_8, .long 0])), (q_1, .inr (3, [.int 0, .ref em, .int 0])), (q_2, .inr (3, [.int 0, .ref em, .int 0])), (q_3, .inl (cA_6, 2, .inr (.inr (.inr (.inr ((tw_two q_4 q_5))))))), (q_4, .inl (cA_7, 24, .inr (.inr (.inr (.inr ((fun _ => none))))))), (q_5, .inl (cA_7, 24, .inr (.inr (.inr (.inr ((fun _ => none))))))), (q_8, .inr (3, [.int 0, .ref em, .int 0]))] := hD
  refine W.widen (k := 6) (n := 59) (Nat.le_of_ble_eq_true rfl) (Nat.le_of_ble_eq_true rfl) ?_
  have hP9 := hP.sub (ws' := [(mm, .inr (10, [.int 0, .int 9, .int 0, .int 99, .ref q_1, .ref q_2, .ref q_3, .int 0, .int 0, .int ((-1)), .ref q_8, .long 0])), (q_1, .inr (3, [.int 0, .ref em, .int 0])), (q_2, .inr (3, [.int 0, .ref em, .int 0])), (q_3, .inl (cA_6, 2, .inr (.inr (.inr (.inr ((tw_two q_4 q_5))))))), (q_4, .inl (cA_7, 24, .inr (.inr (.inr (.inr ((fun _ => none))))))), (q_5, .inl (cA_7, 24, .inr (.inr (.inr (.inr ((fun _ => none))))))), (q_8, .inr (3, [.int 0, .ref em, .int 0]))]) [0, 1, 2, 3, 4, 5, 6] rfl
  have hD9 := hD.sub (ws' := [(mm, .inr (10, [.int 0, .int 9, .int 0, .int 99, .ref q_1, .ref q_2, .ref q_3, .int 0, .int 0, .int ((-1)), .ref q_8, .long 0])), (q_1, .inr (3, [.int 0, .ref em, .int 0])), (q_2, .inr (3, [.int 0, .ref em, .int 0])), (q_3, .inl (cA_6, 2, .inr (.inr (.inr (.inr ((tw_two q_4 q_5))))))), (q_4, .inl (cA_7, 24, .inr (.inr (.inr (.inr ((fun _ => none))))))), (q_5, .inl (cA_7, 24, .inr (.inr (.inr (.inr ((fun _ => none))))))), (q_8, .inr (3, [.int 0, .ref em, .int 0]))]) [0, 1, 2, 3, 4, 5, 6] (by decide) rfl
  have hK9 := hK.sub (tys' := [(cA_6, .array (.object "TowerliftryModel$Car")), (cA_7, .object "TowerliftryModel$Car")]) [0, 1] rfl
  exact W.vret hx hb hr (fun t ht hW => ⟨⟨([(mm, .inr (10, [.int 0, .int 9, .int 0, .int 99, .ref q_1, .ref q_2, .ref q_3, .int 0, .int 0, .int ((-1)), .ref q_8, .long 0])), (q_1, .inr (3, [.int 0, .ref em, .int 0])), (q_2, .inr (3, [.int 0, .ref em, .int 0])), (q_3, .inl (cA_6, 2, .inr (.inr (.inr (.inr ((tw_two q_4 q_5))))))), (q_4, .inl (cA_7, 24, .inr (.inr (.inr (.inr ((fun _ => none))))))), (q_5, .inl (cA_7, 24, .inr (.inr (.inr (.inr ((fun _ => none))))))), (q_8, .inr (3, [.int 0, .ref em, .int 0]))], [(cA_6, .array (.object "TowerliftryModel$Car")), (cA_7, .object "TowerliftryModel$Car")]), rfl, ⟨q_1, q_2, q_3, q_4, q_5, cA_6, cA_7, q_8, rfl⟩, by rw [ht]; exact hP9, va_K.moved hW.alike hK9, hD9⟩, hS.F ht⟩) hS.2.2 dX6_init_65
set_option maxHeartbeats 4000000 in
set_option maxRecDepth 100000 in
theorem c_X4_init (l : Launch) (hst : l.stackTraces = false) (em kw kb : Nat) (D : va_G) (ca : Nat) (mm : Nat) (p0 : Int32) (p1 : Int32) (p2 : Int32) (p3 : Int32) (sz : Nat) : Met l yX4_init wsX4_init ({ frames := 1, cells := 0, slots := 0, locals := 12 }) (va_Pc [.ref ca, .ref mm, .int p0, .int p1, .int p2, .int p3, .null] (tw_Pre em kw kb D sz [(ca, .inr (8, [.int 0, .int 0, .int 0, .int 0, .int 0, .int 0, .null, .int 0, .int 0, .int 0, .int 0, .int 0, .int 0, .null]))] [])) (va_Qv (fun (u : tw_U) => u = ([(ca, .inr (8, [.int p0, .int p1, .int p2, .int p3, .int 0, .int 0, .null, .int 0, .int 0, .int 0, .int ((-1)), .int 0, .int 0, .ref mm]))], [])) (tw_B D (va_A [(ca, .inr (8, [.int 0, .int 0, .int 0, .int 0, .int 0, .int 0, .null, .int 0, .int 0, .int 0, .int 0, .int 0, .int 0, .null]))] sz)) (va_A [(ca, .inr (8, [.int 0, .int 0, .int 0, .int 0, .int 0, .int 0, .null, .int 0, .int 0, .int 0, .int 0, .int 0, .int 0, .null]))] sz)) 0 0 (va_A [(ca, .inr (8, [.int 0, .int 0, .int 0, .int 0, .int 0, .int 0, .null, .int 0, .int 0, .int 0, .int 0, .int 0, .int 0, .null]))] sz) := by
  refine Met.ofW (cc := cX4_init) (maxL := 7) (ret := none) (by decide) rfl ?_
  intro p e s m args below meth c s₁ B hml hv
  obtain ⟨rfl, hsz, hP, hK, hD0, hF⟩ := hv
  have hx := B.exec
  have hb := B.bytes
  have hr := B.returns
  have hts := atoms_spec (ws := wsX4_init) B.pre
  have hown : s.vm.findClass RX4 = some m.cls := findClass_of_methodNamed B.named
  have hlocks := B.notSynchronized
  have hin : meth.name = "<init>" := (name_of_methodNamed B.named B.method).1
  have hiRX4 : ∀ w ∈ u_ws RX4 TX4 14, w ∈ wsX4_init := by decide +kernel
  subst hsz
  have hD := hD0.self (sz := s.heap.size)
  generalize hAe : va_A [(ca, .inr (8, [.int 0, .int 0, .int 0, .int 0, .int 0, .int 0, .null, .int 0, .int 0, .int 0, .int 0, .int 0, .int 0, .null]))] s.heap.size = A at hD hF ⊢
  have hA : ∀ q : Nat, s.heap.size ≤ q → A q := fun q h => by rw [← hAe]; exact Or.inr h
  have hS : va_S A s.heap s.heap [] := va_S.rf
  have hP : va_P D vwCl [(ca, .inr (8, [.int 0, .int 0, .int 0, .int 0, .int 0, .int 0, .null, .int 0, .int 0, .int 0, .int 0, .int 0, .int 0, .null]))] s.heap := hP
  have hl := lv_entry ([.ref ca, .ref mm, .int p0, .int p1, .int p2, .int p3, .null]) (n := 7) (Nat.le_of_ble_eq_true rfl)
  rw [lg_entry_eq]
  generalize (lg_sl ([.ref ca, .ref mm, .int p0, .int p1, .int p2, .int p3, .null]) ++ List.replicate (7 - (lg_sl ([.ref ca, .ref mm, .int p0, .int p1, .int p2, .int p3, .null])).length) Slot.unset).toArray = ls at hl ⊢
  have hl : lv_has ls 7 [(0, .ref ca), (1, .ref mm), (2, .int p0), (3, .int p1), (4, .int p2), (5, .int p3), (6, .null)] := hl
  refine lv_aload_n hx hb dX4_init_0 rfl (lv_at hl 0 rfl) ?_
  refine lv_aload_n hx hb dX4_init_1 rfl (lv_at hl 1 rfl) ?_
  refine va_putF (D := D) (ci := 8) (v := .ref mm) (ty := .object "TowerliftryModel") (C := RX4) (T := TX4) (N := 14) hx hb hts hiRX4 tyX4 tyX4_ok nmX4 hown hK hP hD hS 0 rfl rfl 13 (by decide) (hts (.fieldLink RX4 3 "TowerliftryModel$Car" "this$0" "LTowerliftryModel;") (by decide +kernel)) (fun _ h9 => h9) rfl hin rfl (by decide +kernel) rfl rfl (Nat.le_of_ble_eq_true rfl) dX4_init_2 (fun H locs hP hD hS => ?_)
  have hP : va_P D vwCl [(ca, .inr (8, [.int 0, .int 0, .int 0, .int 0, .int 0, .int 0, .null, .int 0, .int 0, .int 0, .int 0, .int 0, .int 0, .ref mm]))] _ := hP
  have hD : va_D A [(ca, .inr (8, [.int 0, .int 0, .int 0, .int 0, .int 0, .int 0, .null, .int 0, .int 0, .int 0, .int 0, .int 0, .int 0, .ref mm]))] := hD
  refine lv_aload_n hx hb dX4_init_5 rfl (lv_at hl 0 rfl) ?_
  refine W.objInit hx hb hown (hts (.methodLink RX4 9 objectInit) (by decide +kernel)) (hts (.instanceMethod objectInit) (by decide +kernel)) (hts (.code objectInit ⟨#[0xb1]⟩ 1 none) (by decide +kernel)) rfl (by rw [hml]; exact hl.1) rfl dX4_init_6 (Nat.le_of_ble_eq_true rfl) (Nat.le_of_ble_eq_true rfl) ?_
  refine W.eq (g2 := F0 m 9 ls []) rfl ?_
  refine lv_aload_n hx hb dX4_init_9 rfl (lv_at hl 0 rfl) ?_
  refine lv_iconst (v := (-1)) hx hb dX4_init_10 (by decide) ?_
  refine va_put (D := D) (ci := 8) (v := .int ((-1))) (ty := .int) (C := RX4) (T := TX4) (N := 14) hx hb hts hiRX4 tyX4 tyX4_ok nmX4 hown hK hP hD hS 0 rfl rfl 10 (by decide) (hts (.fieldLink RX4 15 "TowerliftryModel$Car" "parked" "I") (by decide +kernel)) (fun _ h9 => h9) rfl (by decide +kernel) rfl rfl (Nat.le_of_ble_eq_true rfl) dX4_init_11 (fun H locs hP hD hS => ?_)
  have hP : va_P D vwCl [(ca, .inr (8, [.int 0, .int 0, .int 0, .int 0, .int 0, .int 0, .null, .int 0, .int 0, .int 0, .int ((-1)), .int 0, .int 0, .ref mm]))] _ := hP
  have hD : va_D A [(ca, .inr (8, [.int 0, .int 0, .int 0, .int 0, .int 0, .int 0, .null, .int 0, .int 0, .int 0, .int ((-1)), .int 0, .int 0, .ref mm]))] := hD
  refine lv_aload_n hx hb dX4_init_14 rfl (lv_at hl 0 rfl) ?_
  refine lv_iload_n hx hb dX4_init_15 rfl (lv_at hl 2 rfl) ?_
  refine va_putF (D := D) (ci := 8) (v := .int p0) (ty := .int) (C := RX4) (T := TX4) (N := 14) hx hb hts hiRX4 tyX4 tyX4_ok nmX4 hown hK hP hD hS 0 rfl rfl 0 (by decide) (hts (.fieldLink RX4 19 "TowerliftryModel$Car" "number" "I") (by decide +kernel)) (fun _ h9 => h9) rfl hin rfl (by decide +kernel) rfl rfl (Nat.le_of_ble_eq_true rfl) dX4_init_16 (fun H locs hP hD hS => ?_)
  have hP : va_P D vwCl [(ca, .inr (8, [.int p0, .int 0, .int 0, .int 0, .int 0, .int 0, .null, .int 0, .int 0, .int 0, .int ((-1)), .int 0, .int 0, .ref mm]))] _ := hP
  have hD : va_D A [(ca, .inr (8, [.int p0, .int 0, .int 0, .int 0, .int 0, .int 0, .null, .int 0, .int 0, .int 0, .int ((-1)), .int 0, .int 0, .ref mm]))] := hD
  refine lv_aload_n hx hb dX4_init_19 rfl (lv_at hl 0 rfl) ?_
  refine lv_iload_n hx hb dX4_init_20 rfl (lv_at hl 3 rfl) ?_
  refine va_putF (D := D) (ci := 8) (v := .int p1) (ty := .int) (C := RX4) (T := TX4) (N := 14) hx hb hts hiRX4 tyX4 tyX4_ok nmX4 hown hK hP hD hS 0 rfl rfl 1 (by decide) (hts (.fieldLink RX4 22 "TowerliftryModel$Car" "shaft" "I") (by decide +kernel)) (fun _ h9 => h9) rfl hin rfl (by decide +kernel) rfl rfl (Nat.le_of_ble_eq_true rfl) dX4_init_21 (fun H locs hP hD hS => ?_)
  have hP : va_P D vwCl [(ca, .inr (8, [.int p0, .int p1, .int 0, .int 0, .int 0, .int 0, .null, .int 0, .int 0, .int 0, .int ((-1)), .int 0, .int 0, .ref mm]))] _ := hP
  have hD : va_D A [(ca, .inr (8, [.int p0, .int p1, .int 0, .int 0, .int 0, .int 0, .null, .int 0, .int 0, .int 0, .int ((-1)), .int 0, .int 0, .ref mm]))] := hD
  refine lv_aload_n hx hb dX4_init_24 rfl (lv_at hl 0 rfl) ?_
  refine lv_iload hx hb dX4_init_25 (lv_at hl 4 rfl) ?_
  refine va_putF (D := D) (ci := 8) (v := .int p2) (ty := .int) (C := RX4) (T := TX4) (N := 14) hx hb hts hiRX4 tyX4 tyX4_ok nmX4 hown hK hP hD hS 0 rfl rfl 2 (by decide) (hts (.fieldLink RX4 25 "TowerliftryModel$Car" "room" "I") (by decide +kernel)) (fun _ h9 => h9) rfl hin rfl (by decide +kernel) rfl rfl (Nat.le_of_ble_eq_true rfl) dX4_init_27 (fun H locs hP hD hS => ?_)
  have hP : va_P D vwCl [(ca, .inr (8, [.int p0, .int p1, .int p2, .int 0, .int 0, .int 0, .null, .int 0, .int 0, .int 0, .int ((-1)), .int 0, .int 0, .ref mm]))] _ := hP
  have hD : va_D A [(ca, .inr (8, [.int p0, .int p1, .int p2, .int 0, .int 0, .int 0, .null, .int 0, .int 0, .int 0, .int ((-1)), .int 0, .int 0, .ref mm]))] := hD
  refine lv_aload_n hx hb dX4_init_30 rfl (lv_at hl 0 rfl) ?_
  refine lv_iload hx hb dX4_init_31 (lv_at hl 5 rfl) ?_
  refine va_putF (D := D) (ci := 8) (v := .int p3) (ty := .int) (C := RX4) (T := TX4) (N := 14) hx hb hts hiRX4 tyX4 tyX4_ok nmX4 hown hK hP hD hS 0 rfl rfl 3 (by decide) (hts (.fieldLink RX4 28 "TowerliftryModel$Car" "express" "I") (by decide +kernel)) (fun _ h9 => h9) rfl hin rfl (by decide +kernel) rfl rfl (Nat.le_of_ble_eq_true rfl) dX4_init_33 (fun H locs hP hD hS => ?_)
  have hP : va_P D vwCl [(ca, .inr (8, [.int p0, .int p1, .int p2, .int p3, .int 0, .int 0, .null, .int 0, .int 0, .int 0, .int ((-1)), .int 0, .int 0, .ref mm]))] _ := hP
  have hD : va_D A [(ca, .inr (8, [.int p0, .int p1, .int p2, .int p3, .int 0, .int 0, .null, .int 0, .int 0, .int 0, .int ((-1)), .int 0, .int 0, .ref mm]))] := hD
  refine lv_aload_n hx hb dX4_init_36 rfl (lv_at hl 0 rfl) ?_
  refine lv_aloadN hx hb dX4_init_37 (lv_at hl 6 rfl) ?_
  refine lv_ifnullN (tgt := 46) hx hb dX4_init_39 (by decide) ?_
  refine lv_iconst (v := 0) hx hb dX4_init_46 (by decide) ?_
  refine va_putF (D := D) (ci := 8) (v := .int 0) (ty := .boolean) (C := RX4) (T := TX4) (N := 14) hx hb hts hiRX4 tyX4 tyX4_ok nmX4 hown hK hP hD hS 0 rfl rfl 4 (by decide) (hts (.fieldLink RX4 31 "TowerliftryModel$Car" "isUpper" "Z") (by decide +kernel)) (fun _ h9 => h9) rfl hin rfl (by decide +kernel) (by decide) (by decide) (Nat.le_of_ble_eq_true rfl) dX4_init_47 (fun H locs hP hD hS => ?_)
  have hP : va_P D vwCl [(ca, .inr (8, [.int p0, .int p1, .int p2, .int p3, .int 0, .int 0, .null, .int 0, .int 0, .int 0, .int ((-1)), .int 0, .int 0, .ref mm]))] _ := hP
  have hD : va_D A [(ca, .inr (8, [.int p0, .int p1, .int p2, .int p3, .int 0, .int 0, .null, .int 0, .int 0, .int 0, .int ((-1)), .int 0, .int 0, .ref mm]))] := hD
  refine lv_aload_n hx hb dX4_init_50 rfl (lv_at hl 0 rfl) ?_
  refine lv_aload_n hx hb dX4_init_51 rfl (lv_at hl 0 rfl) ?_
  refine va_get (D := D) (ci := 8) (v := .int 0) (C := RX4) (T := TX4) (N := 14) hx hb hts hiRX4 hown hK hP 0 rfl rfl 4 (by decide) (hts (.fieldLink RX4 31 "TowerliftryModel$Car" "isUpper" "Z") (by decide +kernel)) (fun _ h9 => h9) rfl dX4_init_52 ?_
  refine lv_if_eq (tgt := 62) hx hb dX4_init_55 (by decide) (fun c9 => ?_) (fun c9 => absurd c9 (by decide))
  refine lv_iconst (v := 0) hx hb dX4_init_62 (by decide) ?_
  refine va_putF (D := D) (ci := 8) (v := .int 0) (ty := .int) (C := RX4) (T := TX4) (N := 14) hx hb hts hiRX4 tyX4 tyX4_ok nmX4 hown hK hP hD hS 0 rfl rfl 5 (by decide) (hts (.fieldLink RX4 35 "TowerliftryModel$Car" "begins" "I") (by decide +kernel)) (fun _ h9 => h9) rfl hin rfl (by decide +kernel) rfl rfl (Nat.le_of_ble_eq_true rfl) dX4_init_63 (fun H locs hP hD hS => ?_)
  have hP : va_P D vwCl [(ca, .inr (8, [.int p0, .int p1, .int p2, .int p3, .int 0, .int 0, .null, .int 0, .int 0, .int 0, .int ((-1)), .int 0, .int 0, .ref mm]))] _ := hP
  have hD : va_D A [(ca, .inr (8, [.int p0, .int p1, .int p2, .int p3, .int 0, .int 0, .null, .int 0, .int 0, .int 0, .int ((-1)), .int 0, .int 0, .ref mm]))] := hD
  refine lv_aload_n hx hb dX4_init_66 rfl (lv_at hl 0 rfl) ?_
  refine lv_aload_n hx hb dX4_init_67 rfl (lv_at hl 0 rfl) ?_
  refine va_get (D := D) (ci := 8) (v := .int 0) (C := RX4) (T := TX4) (N := 14) hx hb hts hiRX4 hown hK hP 0 rfl rfl 5 (by decide) (hts (.fieldLink RX4 35 "TowerliftryModel$Car" "begins" "I") (by decide +kernel)) (fun _ h9 => h9) rfl dX4_init_68 ?_
  refine va_put (D := D) (ci := 8) (v := .int 0) (ty := .int) (C := RX4) (T := TX4) (N := 14) hx hb hts hiRX4 tyX4 tyX4_ok nmX4 hown hK hP hD hS 0 rfl rfl 7 (by decide) (hts (.fieldLink RX4 38 "TowerliftryModel$Car" "floor" "I") (by decide +kernel)) (fun _ h9 => h9) rfl (by decide +kernel) rfl rfl (Nat.le_of_ble_eq_true rfl) dX4_init_71 (fun H locs hP hD hS => ?_)
  have hP : va_P D vwCl [(ca, .inr (8, [.int p0, .int p1, .int p2, .int p3, .int 0, .int 0, .null, .int 0, .int 0, .int 0, .int ((-1)), .int 0, .int 0, .ref mm]))] _ := hP
  have hD : va_D A [(ca, .inr (8, [.int p0, .int p1, .int p2, .int p3, .int 0, .int 0, .null, .int 0, .int 0, .int 0, .int ((-1)), .int 0, .int 0, .ref mm]))] := hD
  refine lv_aload_n hx hb dX4_init_74 rfl (lv_at hl 0 rfl) ?_
  refine lv_aloadN hx hb dX4_init_75 (lv_at hl 6 rfl) ?_
  refine va_put (D := D) (ci := 8) (v := .null) (ty := .object "TowerliftryModel$Car") (C := RX4) (T := TX4) (N := 14) hx hb hts hiRX4 tyX4 tyX4_ok nmX4 hown hK hP hD hS 0 rfl rfl 6 (by decide) (hts (.fieldLink RX4 41 "TowerliftryModel$Car" "other" "LTowerliftryModel$Car;") (by decide +kernel)) (fun _ h9 => h9) rfl (by decide +kernel) rfl rfl (Nat.le_of_ble_eq_true rfl) dX4_init_77 (fun H locs hP hD hS => ?_)
  have hP : va_P D vwCl [(ca, .inr (8, [.int p0, .int p1, .int p2, .int p3, .int 0, .int 0, .null, .int 0, .int 0, .int 0, .int ((-1)), .int 0, .int 0, .ref mm]))] _ := hP
  have hD : va_D A [(ca, .inr (8, [.int p0, .int p1, .int p2, .int p3, .int 0, .int 0, .null, .int 0, .int 0, .int 0, .int ((-1)), .int 0, .int 0, .ref mm]))] := hD
  refine lv_aload_n hx hb dX4_init_80 rfl (lv_at hl 0 rfl) ?_
  refine va_get (D := D) (ci := 8) (v := .int 0) (C := RX4) (T := TX4) (N := 14) hx hb hts hiRX4 hown hK hP 0 rfl rfl 4 (by decide) (hts (.fieldLink RX4 31 "TowerliftryModel$Car" "isUpper" "Z") (by decide +kernel)) (fun _ h9 => h9) rfl dX4_init_81 ?_
  refine lv_if_eq (tgt := 93) hx hb dX4_init_84 (by decide) (fun c9 => ?_) (fun c9 => absurd c9 (by decide))
  refine W.widen (k := 0) (n := 0) (Nat.le_of_ble_eq_true rfl) (Nat.le_of_ble_eq_true rfl) ?_
  have hP9 := hP.sub (ws' := [(ca, .inr (8, [.int p0, .int p1, .int p2, .int p3, .int 0, .int 0, .null, .int 0, .int 0, .int 0, .int ((-1)), .int 0, .int 0, .ref mm]))]) [0] rfl
  have hD9 := hD.sub (ws' := [(ca, .inr (8, [.int p0, .int p1, .int p2, .int p3, .int 0, .int 0, .null, .int 0, .int 0, .int 0, .int ((-1)), .int 0, .int 0, .ref mm]))]) [0] (by decide) rfl
  have hK9 := hK.sub (tys' := []) [] rfl
  exact W.vret hx hb hr (fun t ht hW => ⟨⟨([(ca, .inr (8, [.int p0, .int p1, .int p2, .int p3, .int 0, .int 0, .null, .int 0, .int 0, .int 0, .int ((-1)), .int 0, .int 0, .ref mm]))], []), rfl, rfl, by rw [ht]; exact hP9, va_K.moved hW.alike hK9, hD9⟩, hS.F ht⟩) hS.2.2 dX4_init_93
set_option maxHeartbeats 4000000 in
set_option maxRecDepth 100000 in
theorem c_X5_init (l : Launch) (hst : l.stackTraces = false) (em kw kb : Nat) (D : va_G) (pe : Nat) (p0 : Int32) (p1 : Int32) (p2 : Int32) (p3 : Int32) (p4 : Int32) (sz : Nat) : Met l yX5_init wsX5_init ({ frames := 1, cells := 0, slots := 0, locals := 12 }) (va_Pc [.ref pe, .int p0, .int p1, .int p2, .int p3, .int p4] (tw_Pre em kw kb D sz [(pe, .inr (9, [.int 0, .int 0, .int 0, .int 0, .int 0, .int 0, .int 0, .null]))] [])) (va_Qv (fun (u : tw_U) => u = ([(pe, .inr (9, [.int p0, .int p2, .int p3, .int p4, .int p1, .int 0, .int 119, .null]))], [])) (tw_B D (va_A [(pe, .inr (9, [.int 0, .int 0, .int 0, .int 0, .int 0, .int 0, .int 0, .null]))] sz)) (va_A [(pe, .inr (9, [.int 0, .int 0, .int 0, .int 0, .int 0, .int 0, .int 0, .null]))] sz)) 0 0 (va_A [(pe, .inr (9, [.int 0, .int 0, .int 0, .int 0, .int 0, .int 0, .int 0, .null]))] sz) := by
  refine Met.ofW (cc := cX5_init) (maxL := 6) (ret := none) (by decide) rfl ?_
  intro p e s m args below meth c s₁ B hml hv
  obtain ⟨rfl, hsz, hP, hK, hD0, hF⟩ := hv
  have hx := B.exec
  have hb := B.bytes
  have hr := B.returns
  have hts := atoms_spec (ws := wsX5_init) B.pre
  have hown : s.vm.findClass RX5 = some m.cls := findClass_of_methodNamed B.named
  have hlocks := B.notSynchronized
  have hin : meth.name = "<init>" := (name_of_methodNamed B.named B.method).1
  have hiRX5 : ∀ w ∈ u_ws RX5 TX5 8, w ∈ wsX5_init := by decide +kernel
  subst hsz
  have hD := hD0.self (sz := s.heap.size)
  generalize hAe : va_A [(pe, .inr (9, [.int 0, .int 0, .int 0, .int 0, .int 0, .int 0, .int 0, .null]))] s.heap.size = A at hD hF ⊢
  have hA : ∀ q : Nat, s.heap.size ≤ q → A q := fun q h => by rw [← hAe]; exact Or.inr h
  have hS : va_S A s.heap s.heap [] := va_S.rf
  have hP : va_P D vwCl [(pe, .inr (9, [.int 0, .int 0, .int 0, .int 0, .int 0, .int 0, .int 0, .null]))] s.heap := hP
  have hl := lv_entry ([.ref pe, .int p0, .int p1, .int p2, .int p3, .int p4]) (n := 6) (Nat.le_of_ble_eq_true rfl)
  rw [lg_entry_eq]
  generalize (lg_sl ([.ref pe, .int p0, .int p1, .int p2, .int p3, .int p4]) ++ List.replicate (6 - (lg_sl ([.ref pe, .int p0, .int p1, .int p2, .int p3, .int p4])).length) Slot.unset).toArray = ls at hl ⊢
  have hl : lv_has ls 6 [(0, .ref pe), (1, .int p0), (2, .int p1), (3, .int p2), (4, .int p3), (5, .int p4)] := hl
  refine lv_aload_n hx hb dX5_init_0 rfl (lv_at hl 0 rfl) ?_
  refine W.objInit hx hb hown (hts (.methodLink RX5 1 objectInit) (by decide +kernel)) (hts (.instanceMethod objectInit) (by decide +kernel)) (hts (.code objectInit ⟨#[0xb1]⟩ 1 none) (by decide +kernel)) rfl (by rw [hml]; exact hl.1) rfl dX5_init_1 (Nat.le_of_ble_eq_true rfl) (Nat.le_of_ble_eq_true rfl) ?_
  refine W.eq (g2 := F0 m 4 ls []) rfl ?_
  refine lv_aload_n hx hb dX5_init_4 rfl (lv_at hl 0 rfl) ?_
  refine lv_bipush (v := 119) hx hb dX5_init_5 (by decide) ?_
  refine va_put (D := D) (ci := 9) (v := .int 119) (ty := .char) (C := RX5) (T := TX5) (N := 8) hx hb hts hiRX5 tyX5 tyX5_ok nmX5 hown hK hP hD hS 0 rfl rfl 6 (by decide) (hts (.fieldLink RX5 7 "TowerliftryModel$Person" "state" "C") (by decide +kernel)) (fun _ h9 => h9) rfl (by decide +kernel) (by decide) (by decide) (Nat.le_of_ble_eq_true rfl) dX5_init_7 (fun H locs hP hD hS => ?_)
  have hP : va_P D vwCl [(pe, .inr (9, [.int 0, .int 0, .int 0, .int 0, .int 0, .int 0, .int 119, .null]))] _ := hP
  have hD : va_D A [(pe, .inr (9, [.int 0, .int 0, .int 0, .int 0, .int 0, .int 0, .int 119, .null]))] := hD
  refine lv_aload_n hx hb dX5_init_10 rfl (lv_at hl 0 rfl) ?_
  refine lv_iload_n hx hb dX5_init_11 rfl (lv_at hl 1 rfl) ?_
  refine va_putF (D := D) (ci := 9) (v := .int p0) (ty := .int) (C := RX5) (T := TX5) (N := 8) hx hb hts hiRX5 tyX5 tyX5_ok nmX5 hown hK hP hD hS 0 rfl rfl 0 (by decide) (hts (.fieldLink RX5 13 "TowerliftryModel$Person" "number" "I") (by decide +kernel)) (fun _ h9 => h9) rfl hin rfl (by decide +kernel) rfl rfl (Nat.le_of_ble_eq_true rfl) dX5_init_12 (fun H locs hP hD hS => ?_)
  have hP : va_P D vwCl [(pe, .inr (9, [.int p0, .int 0, .int 0, .int 0, .int 0, .int 0, .int 119, .null]))] _ := hP
  have hD : va_D A [(pe, .inr (9, [.int p0, .int 0, .int 0, .int 0, .int 0, .int 0, .int 119, .null]))] := hD
  refine lv_aload_n hx hb dX5_init_15 rfl (lv_at hl 0 rfl) ?_
  refine lv_iload_n hx hb dX5_init_16 rfl (lv_at hl 2 rfl) ?_
  refine va_put (D := D) (ci := 9) (v := .int p1) (ty := .int) (C := RX5) (T := TX5) (N := 8) hx hb hts hiRX5 tyX5 tyX5_ok nmX5 hown hK hP hD hS 0 rfl rfl 4 (by decide) (hts (.fieldLink RX5 17 "TowerliftryModel$Person" "floor" "I") (by decide +kernel)) (fun _ h9 => h9) rfl (by decide +kernel) rfl rfl (Nat.le_of_ble_eq_true rfl) dX5_init_17 (fun H locs hP hD hS => ?_)
  have hP : va_P D vwCl [(pe, .inr (9, [.int p0, .int 0, .int 0, .int 0, .int p1, .int 0, .int 119, .null]))] _ := hP
  have hD : va_D A [(pe, .inr (9, [.int p0, .int 0, .int 0, .int 0, .int p1, .int 0, .int 119, .null]))] := hD
  refine lv_aload_n hx hb dX5_init_20 rfl (lv_at hl 0 rfl) ?_
  refine lv_iload_n hx hb dX5_init_21 rfl (lv_at hl 3 rfl) ?_
  refine va_putF (D := D) (ci := 9) (v := .int p2) (ty := .int) (C := RX5) (T := TX5) (N := 8) hx hb hts hiRX5 tyX5 tyX5_ok nmX5 hown hK hP hD hS 0 rfl rfl 1 (by decide) (hts (.fieldLink RX5 20 "TowerliftryModel$Person" "to" "I") (by decide +kernel)) (fun _ h9 => h9) rfl hin rfl (by decide +kernel) rfl rfl (Nat.le_of_ble_eq_true rfl) dX5_init_22 (fun H locs hP hD hS => ?_)
  have hP : va_P D vwCl [(pe, .inr (9, [.int p0, .int p2, .int 0, .int 0, .int p1, .int 0, .int 119, .null]))] _ := hP
  have hD : va_D A [(pe, .inr (9, [.int p0, .int p2, .int 0, .int 0, .int p1, .int 0, .int 119, .null]))] := hD
  refine lv_aload_n hx hb dX5_init_25 rfl (lv_at hl 0 rfl) ?_
  refine lv_iload hx hb dX5_init_26 (lv_at hl 4 rfl) ?_
  refine va_putF (D := D) (ci := 9) (v := .int p3) (ty := .int) (C := RX5) (T := TX5) (N := 8) hx hb hts hiRX5 tyX5 tyX5_ok nmX5 hown hK hP hD hS 0 rfl rfl 2 (by decide) (hts (.fieldLink RX5 23 "TowerliftryModel$Person" "weight" "I") (by decide +kernel)) (fun _ h9 => h9) rfl hin rfl (by decide +kernel) rfl rfl (Nat.le_of_ble_eq_true rfl) dX5_init_28 (fun H locs hP hD hS => ?_)
  have hP : va_P D vwCl [(pe, .inr (9, [.int p0, .int p2, .int p3, .int 0, .int p1, .int 0, .int 119, .null]))] _ := hP
  have hD : va_D A [(pe, .inr (9, [.int p0, .int p2, .int p3, .int 0, .int p1, .int 0, .int 119, .null]))] := hD
  refine lv_aload_n hx hb dX5_init_31 rfl (lv_at hl 0 rfl) ?_
  refine lv_iload hx hb dX5_init_32 (lv_at hl 5 rfl) ?_
  refine va_putF (D := D) (ci := 9) (v := .int p4) (ty := .int) (C := RX5) (T := TX5) (N := 8) hx hb hts hiRX5 tyX5 tyX5_ok nmX5 hown hK hP hD hS 0 rfl rfl 3 (by decide) (hts (.fieldLink RX5 26 "TowerliftryModel$Person" "patience" "I") (by decide +kernel)) (fun _ h9 => h9) rfl hin rfl (by decide +kernel) rfl rfl (Nat.le_of_ble_eq_true rfl) dX5_init_34 (fun H locs hP hD hS => ?_)
  have hP : va_P D vwCl [(pe, .inr (9, [.int p0, .int p2, .int p3, .int p4, .int p1, .int 0, .int 119, .null]))] _ := hP
  have hD : va_D A [(pe, .inr (9, [.int p0, .int p2, .int p3, .int p4, .int p1, .int 0, .int 119, .null]))] := hD
  refine W.widen (k := 0) (n := 0) (Nat.le_of_ble_eq_true rfl) (Nat.le_of_ble_eq_true rfl) ?_
  have hP9 := hP.sub (ws' := [(pe, .inr (9, [.int p0, .int p2, .int p3, .int p4, .int p1, .int 0, .int 119, .null]))]) [0] rfl
  have hD9 := hD.sub (ws' := [(pe, .inr (9, [.int p0, .int p2, .int p3, .int p4, .int p1, .int 0, .int 119, .null]))]) [0] (by decide) rfl
  have hK9 := hK.sub (tys' := []) [] rfl
  exact W.vret hx hb hr (fun t ht hW => ⟨⟨([(pe, .inr (9, [.int p0, .int p2, .int p3, .int p4, .int p1, .int 0, .int 119, .null]))], []), rfl, rfl, by rw [ht]; exact hP9, va_K.moved hW.alike hK9, hD9⟩, hS.F ht⟩) hS.2.2 dX5_init_37
