theorem dL_law_965 : decode cL_law 965 = .ok (.aload_n 1, 1) := by decide +kernel
theorem dL_law_966 : decode cL_law 966 = .ok (.aload_n 0, 1) := by decide +kernel
theorem dL_law_967 : decode cL_law 967 = .ok (.iload 5, 2) := by decide +kernel
theorem dL_law_969 : decode cL_law 969 = .ok (.iconst 1, 1) := by decide +kernel
theorem dL_law_970 : decode cL_law 970 = .ok (.iadd, 1) := by decide +kernel
theorem dL_law_971 : decode cL_law 971 = .ok (.iaload, 1) := by decide +kernel
theorem dL_law_972 : decode cL_law 972 = .ok (.aload_n 3, 1) := by decide +kernel
set_option maxRecDepth 20000 in
theorem ggL_law_L_directionOf_c0 : GoodIn wsL_law [Cond.codeWith yL_directionOf cL_directionOf 4 (some .int) [(0, 9, 12, 35)]] := goodIn_r _ [838] (by decide +kernel) (by decide +kernel)
set_option maxRecDepth 20000 in
theorem ggL_law_L_directionOf_c1 : GoodIn wsL_law wsL_directionOf_r1 := goodIn_r _ [361, 839, 840, 841, 2, 842, 637, 367, 368, 369, 370, 371, 372, 17, 122, 124, 125, 126, 16, 127, 78, 128, 129, 130] (by decide +kernel) (by decide +kernel)
set_option maxRecDepth 20000 in
theorem ggL_law_L_directionOf_c2 : GoodIn wsL_law wsL_directionOf_r2 := goodIn_r _ [131, 132, 133, 134, 135, 136, 137, 138, 139, 140, 141, 142, 143, 30] (by decide +kernel) (by decide +kernel)
set_option maxRecDepth 20000 in
theorem ggL_law_L_directionOf_c3 : GoodIn wsL_law wsX00 := goodIn_r _ [1201, 1202, 1203, 1204, 1205, 1206, 1207, 1208, 1209, 1210, 1211, 1212, 1213, 1214, 1215, 1216, 1217, 1218, 1219] (by decide +kernel) (by decide +kernel)
set_option maxRecDepth 20000 in
theorem ggL_law_L_directionOf_c4 : GoodIn wsL_law wsX30 := goodIn_r _ [1172, 1173, 1174, 1175, 1176, 1177, 1178, 1179, 1180, 1181, 1182, 1183] (by decide +kernel) (by decide +kernel)
set_option maxRecDepth 20000 in
theorem ggL_law_L_directionOf_c5 : GoodIn wsL_law wsJx4a65c0 := goodIn_r _ [1196, 1197, 1198] (by decide +kernel) (by decide +kernel)
set_option maxRecDepth 20000 in
theorem ggL_law_L_directionOf : GoodIn wsL_law wsL_directionOf := goodIn_ca (goodIn_ca (tw_gc ggL_law_L_directionOf_c0 (goodIn_app (goodIn_app (goodIn_app (goodIn_app ggL_law_L_directionOf_c1 ggL_law_L_directionOf_c2) ggL_law_L_directionOf_c3) ggL_law_L_directionOf_c4) ggL_law_L_directionOf_c5)) (goodIn_sub (fun _ h => List.mem_append_left _ (List.mem_append_left _ (List.mem_append_left _ (List.mem_append_left _ (List.mem_append_left _ (List.mem_append_left _ (List.mem_append_left _ (List.mem_append_right _ h)))))))) (by decide +kernel))) (goodIn_sub (fun _ h => List.mem_append_left _ (List.mem_append_left _ (List.mem_append_left _ (List.mem_append_right _ h)))) (by decide +kernel))
set_option maxRecDepth 20000 in
theorem gL_law_L_directionOf : GoodIn wsL_law (va_wsS RL 168 yL_directionOf wsL_directionOf) := goodIn_app (goodIn_of _ (by decide +kernel)) ggL_law_L_directionOf
theorem dL_law_973 : decode cL_law 973 = .ok (.invokestatic 168, 3) := by decide +kernel
theorem dL_law_976 : decode cL_law 976 = .ok (.istore 6, 2) := by decide +kernel
theorem dL_law_978 : decode cL_law 978 = .ok (.aload_n 2, 1) := by decide +kernel
theorem dL_law_979 : decode cL_law 979 = .ok (.aload_n 0, 1) := by decide +kernel
theorem dL_law_980 : decode cL_law 980 = .ok (.iload 5, 2) := by decide +kernel
theorem dL_law_982 : decode cL_law 982 = .ok (.iconst 1, 1) := by decide +kernel
theorem dL_law_983 : decode cL_law 983 = .ok (.iadd, 1) := by decide +kernel
theorem dL_law_984 : decode cL_law 984 = .ok (.iaload, 1) := by decide +kernel
set_option maxRecDepth 20000 in
theorem ggL_law_X6_directionOf_c0 : GoodIn wsL_law [Cond.code yX6_directionOf cX6_directionOf 3 (some .char)] := goodIn_r _ [846] (by decide +kernel) (by decide +kernel)
set_option maxRecDepth 20000 in
theorem ggL_law_X6_directionOf_c1 : GoodIn wsL_law wsX6_directionOf_r1 := goodIn_r _ [90, 54, 237, 381, 382, 383, 5, 384, 283, 125, 126, 16, 127, 78, 83, 84, 85, 385, 129, 130, 131, 132, 133, 134] (by decide +kernel) (by decide +kernel)
set_option maxRecDepth 20000 in
theorem ggL_law_X6_directionOf_c2 : GoodIn wsL_law wsX6_directionOf_r2 := goodIn_r _ [135, 136, 137, 138, 139, 140, 141, 142, 143, 30] (by decide +kernel) (by decide +kernel)
set_option maxRecDepth 20000 in
theorem ggL_law_X6_directionOf_c3 : GoodIn wsL_law wsX60 := goodIn_r _ [1184, 1185, 1186, 1187, 1188, 1189, 1190, 1191, 1192, 1193, 1194, 1195] (by decide +kernel) (by decide +kernel)
set_option maxRecDepth 20000 in
theorem ggL_law_X6_directionOf_c4 : GoodIn wsL_law wsX40 := goodIn_r _ [1220, 1221, 1222, 1223, 1224, 1225, 1226, 1227, 1228, 1229, 1230, 1231, 1232, 1233] (by decide +kernel) (by decide +kernel)
set_option maxRecDepth 20000 in
theorem ggL_law_X6_directionOf_c5 : GoodIn wsL_law wsJx4a65c0 := goodIn_r _ [1196, 1197, 1198] (by decide +kernel) (by decide +kernel)
set_option maxRecDepth 20000 in
theorem ggL_law_X6_directionOf : GoodIn wsL_law wsX6_directionOf := tw_gc ggL_law_X6_directionOf_c0 (goodIn_app (goodIn_app (goodIn_app (goodIn_app ggL_law_X6_directionOf_c1 ggL_law_X6_directionOf_c2) ggL_law_X6_directionOf_c3) ggL_law_X6_directionOf_c4) ggL_law_X6_directionOf_c5)
set_option maxRecDepth 20000 in
theorem gL_law_X6_directionOf : GoodIn wsL_law (wsV RL 170 RX6 yX6_directionOf wsX6_directionOf) := goodIn_app (goodIn_of _ (by decide +kernel)) ggL_law_X6_directionOf
theorem dL_law_985 : decode cL_law 985 = .ok (.invokevirtual 170, 3) := by decide +kernel
theorem dL_law_988 : decode cL_law 988 = .ok (.istore 7, 2) := by decide +kernel
theorem dL_law_990 : decode cL_law 990 = .ok (.aload_n 2, 1) := by decide +kernel
theorem dL_law_991 : decode cL_law 991 = .ok (.invokevirtual 127, 3) := by decide +kernel
theorem dL_law_994 : decode cL_law 994 = .ok (.iload 6, 2) := by decide +kernel
theorem dL_law_996 : decode cL_law 996 = .ok (.if_icmp .eq 5, 3) := by decide +kernel
theorem dL_law_1001 : decode cL_law 1001 = .ok (.iload 6, 2) := by decide +kernel
theorem dL_law_1003 : decode cL_law 1003 = .ok (.ifCond .ne 15, 3) := by decide +kernel
theorem dL_law_1018 : decode cL_law 1018 = .ok (.goto 1038, 3) := by decide +kernel
theorem dL_law_1021 : decode cL_law 1021 = .ok (.aload_n 1, 1) := by decide +kernel
theorem dL_law_1022 : decode cL_law 1022 = .ok (.aload_n 0, 1) := by decide +kernel
theorem dL_law_1023 : decode cL_law 1023 = .ok (.iload 5, 2) := by decide +kernel
theorem dL_law_1025 : decode cL_law 1025 = .ok (.iconst 1, 1) := by decide +kernel
theorem dL_law_1026 : decode cL_law 1026 = .ok (.iadd, 1) := by decide +kernel
theorem dL_law_1027 : decode cL_law 1027 = .ok (.iaload, 1) := by decide +kernel
theorem dL_law_1028 : decode cL_law 1028 = .ok (.aload_n 3, 1) := by decide +kernel
set_option maxRecDepth 20000 in
theorem ggL_law_L_isOpen_c0 : GoodIn wsL_law [Cond.codeWith yL_isOpen cL_isOpen 4 (some .int) [(0, 16, 19, 35)]] := goodIn_r _ [849] (by decide +kernel) (by decide +kernel)
set_option maxRecDepth 20000 in
theorem ggL_law_L_isOpen_c1 : GoodIn wsL_law wsL_isOpen_r1 := goodIn_r _ [361, 850, 851, 852, 2, 853, 367, 368, 369, 370, 371, 372, 17, 122, 124, 125, 126, 16, 127, 78, 128, 129, 130, 131] (by decide +kernel) (by decide +kernel)
set_option maxRecDepth 20000 in
theorem ggL_law_L_isOpen_c2 : GoodIn wsL_law wsL_isOpen_r2 := goodIn_r _ [132, 133, 134, 135, 136, 137, 138, 139, 140, 141, 142, 143, 30, 555, 154, 155, 112, 156, 157] (by decide +kernel) (by decide +kernel)
set_option maxRecDepth 20000 in
theorem ggL_law_L_isOpen_c3 : GoodIn wsL_law wsX30 := goodIn_r _ [1172, 1173, 1174, 1175, 1176, 1177, 1178, 1179, 1180, 1181, 1182, 1183] (by decide +kernel) (by decide +kernel)
set_option maxRecDepth 20000 in
theorem ggL_law_L_isOpen_c4 : GoodIn wsL_law wsJx4a65c0 := goodIn_r _ [1196, 1197, 1198] (by decide +kernel) (by decide +kernel)
set_option maxRecDepth 20000 in
theorem ggL_law_L_isOpen_c5 : GoodIn wsL_law wsX00 := goodIn_r _ [1201, 1202, 1203, 1204, 1205, 1206, 1207, 1208, 1209, 1210, 1211, 1212, 1213, 1214, 1215, 1216, 1217, 1218, 1219] (by decide +kernel) (by decide +kernel)
set_option maxRecDepth 20000 in
theorem ggL_law_L_isOpen : GoodIn wsL_law wsL_isOpen := goodIn_ca (goodIn_ca (tw_gc ggL_law_L_isOpen_c0 (goodIn_app (goodIn_app (goodIn_app (goodIn_app ggL_law_L_isOpen_c1 ggL_law_L_isOpen_c2) ggL_law_L_isOpen_c3) ggL_law_L_isOpen_c4) ggL_law_L_isOpen_c5)) (goodIn_sub (fun _ h => List.mem_append_left _ (List.mem_append_left _ (List.mem_append_left _ (List.mem_append_left _ (List.mem_append_left _ (List.mem_append_left _ (List.mem_append_left _ (List.mem_append_right _ h)))))))) (by decide +kernel))) (goodIn_sub (fun _ h => List.mem_append_left _ (List.mem_append_left _ (List.mem_append_left _ (List.mem_append_right _ h)))) (by decide +kernel))
set_option maxRecDepth 20000 in
theorem gL_law_L_isOpen : GoodIn wsL_law (va_wsS RL 171 yL_isOpen wsL_isOpen) := goodIn_app (goodIn_of _ (by decide +kernel)) ggL_law_L_isOpen
theorem dL_law_1029 : decode cL_law 1029 = .ok (.invokestatic 171, 3) := by decide +kernel
theorem dL_law_1032 : decode cL_law 1032 = .ok (.istore 6, 2) := by decide +kernel
theorem dL_law_1034 : decode cL_law 1034 = .ok (.aload_n 2, 1) := by decide +kernel
theorem dL_law_1035 : decode cL_law 1035 = .ok (.aload_n 0, 1) := by decide +kernel
theorem dL_law_1036 : decode cL_law 1036 = .ok (.iload 5, 2) := by decide +kernel
theorem dL_law_1038 : decode cL_law 1038 = .ok (.iconst 1, 1) := by decide +kernel
theorem dL_law_1039 : decode cL_law 1039 = .ok (.iadd, 1) := by decide +kernel
theorem dL_law_1040 : decode cL_law 1040 = .ok (.iaload, 1) := by decide +kernel
set_option maxRecDepth 20000 in
theorem ggL_law_X6_isOpen_c0 : GoodIn wsL_law [Cond.code yX6_isOpen cX6_isOpen 2 (some .boolean)] := goodIn_r _ [857] (by decide +kernel) (by decide +kernel)
set_option maxRecDepth 20000 in
theorem ggL_law_X6_isOpen_c1 : GoodIn wsL_law wsX6_isOpen_r1 := goodIn_r _ [90, 54, 237, 381, 382, 383, 5, 384, 283, 125, 126, 16, 127, 78, 83, 84, 85, 385, 129, 130, 131, 132, 133, 134] (by decide +kernel) (by decide +kernel)
set_option maxRecDepth 20000 in
theorem ggL_law_X6_isOpen_c2 : GoodIn wsL_law wsX6_isOpen_r2 := goodIn_r _ [135, 136, 137, 138, 139, 140, 141, 142, 143, 30] (by decide +kernel) (by decide +kernel)
set_option maxRecDepth 20000 in
theorem ggL_law_X6_isOpen_c3 : GoodIn wsL_law wsX60 := goodIn_r _ [1184, 1185, 1186, 1187, 1188, 1189, 1190, 1191, 1192, 1193, 1194, 1195] (by decide +kernel) (by decide +kernel)
set_option maxRecDepth 20000 in
theorem ggL_law_X6_isOpen_c4 : GoodIn wsL_law wsX40 := goodIn_r _ [1220, 1221, 1222, 1223, 1224, 1225, 1226, 1227, 1228, 1229, 1230, 1231, 1232, 1233] (by decide +kernel) (by decide +kernel)
set_option maxRecDepth 20000 in
theorem ggL_law_X6_isOpen_c5 : GoodIn wsL_law wsJx4a65c0 := goodIn_r _ [1196, 1197, 1198] (by decide +kernel) (by decide +kernel)
set_option maxRecDepth 20000 in
theorem ggL_law_X6_isOpen : GoodIn wsL_law wsX6_isOpen := tw_gc ggL_law_X6_isOpen_c0 (goodIn_app (goodIn_app (goodIn_app (goodIn_app ggL_law_X6_isOpen_c1 ggL_law_X6_isOpen_c2) ggL_law_X6_isOpen_c3) ggL_law_X6_isOpen_c4) ggL_law_X6_isOpen_c5)
set_option maxRecDepth 20000 in
theorem gL_law_X6_isOpen : GoodIn wsL_law (wsV RL 173 RX6 yX6_isOpen wsX6_isOpen) := goodIn_app (goodIn_of _ (by decide +kernel)) ggL_law_X6_isOpen
theorem dL_law_1041 : decode cL_law 1041 = .ok (.invokevirtual 173, 3) := by decide +kernel
theorem dL_law_1044 : decode cL_law 1044 = .ok (.istore 7, 2) := by decide +kernel
theorem dL_law_1046 : decode cL_law 1046 = .ok (.aload_n 2, 1) := by decide +kernel
theorem dL_law_1047 : decode cL_law 1047 = .ok (.invokevirtual 127, 3) := by decide +kernel
theorem dL_law_1050 : decode cL_law 1050 = .ok (.iload 6, 2) := by decide +kernel
theorem dL_law_1052 : decode cL_law 1052 = .ok (.if_icmp .eq 5, 3) := by decide +kernel
theorem dL_law_1057 : decode cL_law 1057 = .ok (.iload 6, 2) := by decide +kernel
theorem dL_law_1059 : decode cL_law 1059 = .ok (.ifCond .ne 22, 3) := by decide +kernel
theorem dL_law_1081 : decode cL_law 1081 = .ok (.goto 975, 3) := by decide +kernel
set_option maxHeartbeats 4000000 in
set_option maxRecDepth 100000 in
theorem tw_case_12 {p : Program} {l : Launch} {e : Env} {s : State} {m : MethodId} {below : List Frame} {meth : Method} {c : Code} {b : Nat} {xs : Nat → Int32} (C0 : lw_At p s m meth c b 6 xs) (hst : l.stackTraces = false) {A : Nat → Prop} (hAe : A = fun q : Nat => s.heap.size ≤ q) (em kw kb : Nat) (D : va_G) (hF : tw_F em kw kb A s) (q_1 : Nat) (q_2 : Nat) (q_3 : Nat) (q_4 : Nat) (q_5 : Nat) (cA_6 : ClassId) (q_7 : Nat) (q_8 : Nat) (q_9 : Nat) (q_10 : Nat) (q_11 : Nat) (q_12 : Nat) (cA_13 : ClassId) (cA_14 : ClassId) (q_15 : Nat) (q_16 : Nat) (cA_17 : ClassId) (q_18 : Nat) (cA_19 : ClassId) (H : Heap) (locs : List Loc) (hK : va_K D vwCl [(cA_6, .int), (cA_13, .array (.object "TowerliftryModel$Car")), (cA_14, .object "TowerliftryModel$Car"), (cA_17, .long), (cA_19, .double)] s) (hP : va_P D vwCl [(q_1, .inr (7, [.ref q_2, .ref q_3, .ref q_4, .int 9, .int 99, .int 0, .int 0, .int 0, .int ((-1)), .int 0, .int 0, .long 0])), (q_2, .inr (3, [.int 0, .ref em, .int 0])), (q_3, .inr (3, [.int 0, .ref em, .int 0])), (q_4, .inr (5, [.ref q_5, .int 0])), (q_5, .inl (cA_6, 256, .inl ((fun _ => 0)))), (q_7, .inr (10, [.int 0, .int 9, .int 0, .int 99, .ref q_8, .ref q_9, .ref q_10, .int 0, .int 0, .int ((-1)), .ref q_15, .long 0])), (q_8, .inr (3, [.int 0, .ref em, .int 0])), (q_9, .inr (3, [.int 0, .ref em, .int 0])), (q_10, .inl (cA_13, 2, .inr (.inr (.inr (.inr ((tw_two q_11 q_12))))))), (q_11, .inl (cA_14, 24, .inr (.inr (.inr (.inr ((fun _ => none))))))), (q_12, .inl (cA_14, 24, .inr (.inr (.inr (.inr ((fun _ => none))))))), (q_15, .inr (3, [.int 0, .ref em, .int 0])), (q_16, .inl (cA_17, 1, .inr (.inl ((fun _ => 0))))), (q_18, .inl (cA_19, 1, .inr (.inr (.inr (.inl ((fun _ => 0)))))))] H) (hD : va_D A [(q_1, .inr (7, [.ref q_2, .ref q_3, .ref q_4, .int 9, .int 99, .int 0, .int 0, .int 0, .int ((-1)), .int 0, .int 0, .long 0])), (q_2, .inr (3, [.int 0, .ref em, .int 0])), (q_3, .inr (3, [.int 0, .ref em, .int 0])), (q_4, .inr (5, [.ref q_5, .int 0])), (q_5, .inl (cA_6, 256, .inl ((fun _ => 0)))), (q_7, .inr (10, [.int 0, .int 9, .int 0, .int 99, .ref q_8, .ref q_9, .ref q_10, .int 0, .int 0, .int ((-1)), .ref q_15, .long 0])), (q_8, .inr (3, [.int 0, .ref em, .int 0])), (q_9, .inr (3, [.int 0, .ref em, .int 0])), (q_10, .inl (cA_13, 2, .inr (.inr (.inr (.inr ((tw_two q_11 q_12))))))), (q_11, .inl (cA_14, 24, .inr (.inr (.inr (.inr ((fun _ => none))))))), (q_12, .inl (cA_14, 24, .inr (.inr (.inr (.inr ((fun _ => none))))))), (q_15, .inr (3, [.int 0, .ref em, .int 0])), (q_16, .inl (cA_17, 1, .inr (.inl ((fun _ => 0))))), (q_18, .inl (cA_19, 1, .inr (.inr (.inr (.inl ((fun _ => 0)))))))]) (hS : va_S A s.heap H locs) (ls : Array Slot) (hl : lv_has ls 9 [(5, .int 0), (4, .ref q_18), (3, .ref q_16), (2, .ref q_7), (1, .ref q_1), (0, .ref b)]) : W p l e room_1 s m #[Value.ref b] below meth c H locs 14 349 (lw_Z below #[Value.ref b] s) (F0 m 965 ls []) := by
  obtain ⟨hx, hb, hr, hml, hown, hts0, hX, hbl, hlocks, hgv⟩ := id C0
  have hown : s.vm.findClass RL = some m.cls := hown
  have hts : ∀ w ∈ wsL_law, w.before #[Value.ref b] s = true := fun w h => hts0 w (wsL_law_in w h)
  have hA : ∀ q : Nat, s.heap.size ≤ q → A q := fun q h => by rw [hAe]; exact h
  have hbA : ¬ A b := by rw [hAe]; exact Nat.not_le.mpr hbl
  refine lv_aload_n hx hb dL_law_965 rfl (lv_at hl 4 rfl) ?_
  refine lv_aload_n hx hb dL_law_966 rfl (lv_at hl 5 rfl) ?_
  refine lv_iload hx hb dL_law_967 (lv_at hl 0 rfl) ?_
  refine lv_iconst (v := 1) hx hb dL_law_969 (by decide) ?_
  refine lv_iadd hx hb dL_law_970 ?_
  refine lv_topi (fun z_1 ez_1 => ?_)
  have ez_1 : z_1 = (1 : Int32) := ez_1.trans (by decide)
  subst ez_1
  refine va_sld hx hb hX hbl hbA hS (by unfold vp_in; decide) dL_law_971 ?_
  rw [show (1 : Int32).toNatClampNeg = 1 from by decide]
  refine lv_aload_n hx hb dL_law_972 rfl (lv_at hl 2 rfl) ?_
  have hPc := hP.sub (ws' := [(q_1, .inr (7, [.ref q_2, .ref q_3, .ref q_4, .int 9, .int 99, .int 0, .int 0, .int 0, .int ((-1)), .int 0, .int 0, .long 0])), (q_2, .inr (3, [.int 0, .ref em, .int 0])), (q_16, .inl (cA_17, 1, .inr (.inl ((fun _ => 0)))))]) [0, 1, 12] rfl
  have hDc := hD.sub (ws' := [(q_1, .inr (7, [.ref q_2, .ref q_3, .ref q_4, .int 9, .int 99, .int 0, .int 0, .int 0, .int ((-1)), .int 0, .int 0, .long 0])), (q_2, .inr (3, [.int 0, .ref em, .int 0])), (q_16, .inl (cA_17, 1, .inr (.inl ((fun _ => 0)))))]) [0, 1, 12] (by decide) rfl
  have hKc := hK.sub (tys' := [(cA_17, .long)]) [3] rfl
  have hFc := va_free (wc := [(q_1, .inr (7, [.ref q_2, .ref q_3, .ref q_4, .int 9, .int 99, .int 0, .int 0, .int 0, .int ((-1)), .int 0, .int 0, .long 0])), (q_2, .inr (3, [.int 0, .ref em, .int 0])), (q_16, .inl (cA_17, 1, .inr (.inl ((fun _ => 0)))))]) hD hS hA [0, 1, 12] rfl
  refine va_calli (vx_runSW (As := [.ref q_1, .int ((xs 1)), .ref q_16]) (rest := []) ⟨hx, hb, hml, hown, hts⟩ (c_L_directionOf l hst em kw kb D q_1 ((xs 1)) q_16 q_2 q_3 q_4 cA_17 _) (vx_cwSW 3 hts gL_law_L_directionOf rfl rfl rfl (by decide +kernel) ⟨(Nat.le_of_ble_eq_true rfl), (Nat.le_of_ble_eq_true rfl)⟩) (tw_preS hF hS hFc hPc hKc hDc) rfl rfl hl.1 rfl (lv_room (Nat.le_of_ble_eq_true rfl)) dL_law_973 ⟨(Nat.le_of_ble_eq_true rfl), (Nat.le_of_ble_eq_true rfl)⟩) hS (fun q _ h => hFc q h) hFc (fun r u t H locs ht hvm hw hB hz1 hk1 hS => ?_)
  obtain ⟨rfl, rfl⟩ := hw
  obtain ⟨hP, hD, hK⟩ := tw_join (wr := [(q_3, .inr (3, [.int 0, .ref em, .int 0])), (q_4, .inr (5, [.ref q_5, .int 0])), (q_5, .inl (cA_6, 256, .inl ((fun _ => 0)))), (q_7, .inr (10, [.int 0, .int 9, .int 0, .int 99, .ref q_8, .ref q_9, .ref q_10, .int 0, .int 0, .int ((-1)), .ref q_15, .long 0])), (q_8, .inr (3, [.int 0, .ref em, .int 0])), (q_9, .inr (3, [.int 0, .ref em, .int 0])), (q_10, .inl (cA_13, 2, .inr (.inr (.inr (.inr ((tw_two q_11 q_12))))))), (q_11, .inl (cA_14, 24, .inr (.inr (.inr (.inr ((fun _ => none))))))), (q_12, .inl (cA_14, 24, .inr (.inr (.inr (.inr ((fun _ => none))))))), (q_15, .inr (3, [.int 0, .ref em, .int 0])), (q_18, .inl (cA_19, 1, .inr (.inr (.inr (.inl ((fun _ => 0)))))))]) hP hD hK [0, 1, 12] [2, 3, 4, 5, 6, 7, 8, 9, 10, 11, 13] rfl rfl (by decide) (by decide) hk1 hFc ht hvm hB
  have hP : va_P D vwCl [(q_3, .inr (3, [.int 0, .ref em, .int 0])), (q_4, .inr (5, [.ref q_5, .int 0])), (q_5, .inl (cA_6, 256, .inl ((fun _ => 0)))), (q_7, .inr (10, [.int 0, .int 9, .int 0, .int 99, .ref q_8, .ref q_9, .ref q_10, .int 0, .int 0, .int ((-1)), .ref q_15, .long 0])), (q_8, .inr (3, [.int 0, .ref em, .int 0])), (q_9, .inr (3, [.int 0, .ref em, .int 0])), (q_10, .inl (cA_13, 2, .inr (.inr (.inr (.inr ((tw_two q_11 q_12))))))), (q_11, .inl (cA_14, 24, .inr (.inr (.inr (.inr ((fun _ => none))))))), (q_12, .inl (cA_14, 24, .inr (.inr (.inr (.inr ((fun _ => none))))))), (q_15, .inr (3, [.int 0, .ref em, .int 0])), (q_18, .inl (cA_19, 1, .inr (.inr (.inr (.inl ((fun _ => 0))))))), (q_16, .inl (cA_17, 1, .inr (.inl ((fun _ => 0)))))] _ := hP
  have hD : va_D A [(q_3, .inr (3, [.int 0, .ref em, .int 0])), (q_4, .inr (5, [.ref q_5, .int 0])), (q_5, .inl (cA_6, 256, .inl ((fun _ => 0)))), (q_7, .inr (10, [.int 0, .int 9, .int 0, .int 99, .ref q_8, .ref q_9, .ref q_10, .int 0, .int 0, .int ((-1)), .ref q_15, .long 0])), (q_8, .inr (3, [.int 0, .ref em, .int 0])), (q_9, .inr (3, [.int 0, .ref em, .int 0])), (q_10, .inl (cA_13, 2, .inr (.inr (.inr (.inr ((tw_two q_11 q_12))))))), (q_11, .inl (cA_14, 24, .inr (.inr (.inr (.inr ((fun _ => none))))))), (q_12, .inl (cA_14, 24, .inr (.inr (.inr (.inr ((fun _ => none))))))), (q_15, .inr (3, [.int 0, .ref em, .int 0])), (q_18, .inl (cA_19, 1, .inr (.inr (.inr (.inl ((fun _ => 0))))))), (q_16, .inl (cA_17, 1, .inr (.inl ((fun _ => 0)))))] := hD
  have hK : va_K D vwCl [(cA_6, .int), (cA_13, .array (.object "TowerliftryModel$Car")), (cA_14, .object "TowerliftryModel$Car"), (cA_17, .long), (cA_19, .double)] s := hK
  refine W.widen (k := 15) (n := 355) (Nat.le_refl _) (Nat.le_refl _) ?_
  refine W.eq (g2 := F0 m 976 ls [.int 1]) rfl ?_
  refine lv_istore (lv' := [(6, .int 1), (5, .int 0), (4, .ref q_18), (3, .ref q_16), (2, .ref q_7), (1, .ref q_1), (0, .ref b)]) hx hb dL_law_976 hl (by decide) rfl (fun ls hl => ?_)
  refine lv_aload_n hx hb dL_law_978 rfl (lv_at hl 4 rfl) ?_
  refine lv_aload_n hx hb dL_law_979 rfl (lv_at hl 6 rfl) ?_
  refine lv_iload hx hb dL_law_980 (lv_at hl 1 rfl) ?_
  refine lv_iconst (v := 1) hx hb dL_law_982 (by decide) ?_
  refine lv_iadd hx hb dL_law_983 ?_
  refine lv_topi (fun z_2 ez_2 => ?_)
  have ez_2 : z_2 = (1 : Int32) := ez_2.trans (by decide)
  subst ez_2
  refine va_sld hx hb hX hbl hbA hS (by unfold vp_in; decide) dL_law_984 ?_
  rw [show (1 : Int32).toNatClampNeg = 1 from by decide]
  have hPc := hP.sub (ws' := [(q_7, .inr (10, [.int 0, .int 9, .int 0, .int 99, .ref q_8, .ref q_9, .ref q_10, .int 0, .int 0, .int ((-1)), .ref q_15, .long 0])), (q_8, .inr (3, [.int 0, .ref em, .int 0]))]) [3, 4] rfl
  have hDc := hD.sub (ws' := [(q_7, .inr (10, [.int 0, .int 9, .int 0, .int 99, .ref q_8, .ref q_9, .ref q_10, .int 0, .int 0, .int ((-1)), .ref q_15, .long 0])), (q_8, .inr (3, [.int 0, .ref em, .int 0]))]) [3, 4] (by decide) rfl
  have hKc := hK.sub (tys' := []) [] rfl
  have hFc := va_free (wc := [(q_7, .inr (10, [.int 0, .int 9, .int 0, .int 99, .ref q_8, .ref q_9, .ref q_10, .int 0, .int 0, .int ((-1)), .ref q_15, .long 0])), (q_8, .inr (3, [.int 0, .ref em, .int 0]))]) hD hS hA [3, 4] rfl
  refine va_calli (va_runV (As := [.int ((xs 1))]) (rest := []) ⟨hx, hb, hml, hown, hts⟩ (c_X6_directionOf l hst em kw kb D q_7 ((xs 1)) q_8 q_9 q_10 q_15 _) (cwV 1 hts gL_law_X6_directionOf rfl rfl rfl (by decide +kernel) ⟨(Nat.le_of_ble_eq_true rfl), (Nat.le_of_ble_eq_true rfl)⟩) (tw_preV hF hS hFc hPc hKc hDc (va_recv hKc hPc (ci := 10) (q0 := 0) rfl rfl)) rfl rfl hl.1 rfl (lv_room (Nat.le_of_ble_eq_true rfl)) dL_law_985 ⟨(Nat.le_of_ble_eq_true rfl), (Nat.le_of_ble_eq_true rfl)⟩) hS (fun q _ h => hFc q h) hFc (fun r u t H locs ht hvm hw hB hz1 hk1 hS => ?_)
  obtain ⟨rfl, rfl⟩ := hw
  obtain ⟨hP, hD, hK⟩ := tw_join (wr := [(q_3, .inr (3, [.int 0, .ref em, .int 0])), (q_4, .inr (5, [.ref q_5, .int 0])), (q_5, .inl (cA_6, 256, .inl ((fun _ => 0)))), (q_9, .inr (3, [.int 0, .ref em, .int 0])), (q_10, .inl (cA_13, 2, .inr (.inr (.inr (.inr ((tw_two q_11 q_12))))))), (q_11, .inl (cA_14, 24, .inr (.inr (.inr (.inr ((fun _ => none))))))), (q_12, .inl (cA_14, 24, .inr (.inr (.inr (.inr ((fun _ => none))))))), (q_15, .inr (3, [.int 0, .ref em, .int 0])), (q_18, .inl (cA_19, 1, .inr (.inr (.inr (.inl ((fun _ => 0))))))), (q_16, .inl (cA_17, 1, .inr (.inl ((fun _ => 0)))))]) hP hD hK [3, 4] [0, 1, 2, 5, 6, 7, 8, 9, 10, 11] rfl rfl (by decide) (by decide) hk1 hFc ht hvm hB
  have hP : va_P D vwCl [(q_3, .inr (3, [.int 0, .ref em, .int 0])), (q_4, .inr (5, [.ref q_5, .int 0])), (q_5, .inl (cA_6, 256, .inl ((fun _ => 0)))), (q_9, .inr (3, [.int 0, .ref em, .int 0])), (q_10, .inl (cA_13, 2, .inr (.inr (.inr (.inr ((tw_two q_11 q_12))))))), (q_11, .inl (cA_14, 24, .inr (.inr (.inr (.inr ((fun _ => none))))))), (q_12, .inl (cA_14, 24, .inr (.inr (.inr (.inr ((fun _ => none))))))), (q_15, .inr (3, [.int 0, .ref em, .int 0])), (q_18, .inl (cA_19, 1, .inr (.inr (.inr (.inl ((fun _ => 0))))))), (q_16, .inl (cA_17, 1, .inr (.inl ((fun _ => 0))))), (q_7, .inr (10, [.int 1, .int 9, .int 0, .int 99, .ref q_8, .ref q_9, .ref q_10, .int 0, .int 0, .int ((-1)), .ref q_15, .long 0]))] _ := hP
  have hD : va_D A [(q_3, .inr (3, [.int 0, .ref em, .int 0])), (q_4, .inr (5, [.ref q_5, .int 0])), (q_5, .inl (cA_6, 256, .inl ((fun _ => 0)))), (q_9, .inr (3, [.int 0, .ref em, .int 0])), (q_10, .inl (cA_13, 2, .inr (.inr (.inr (.inr ((tw_two q_11 q_12))))))), (q_11, .inl (cA_14, 24, .inr (.inr (.inr (.inr ((fun _ => none))))))), (q_12, .inl (cA_14, 24, .inr (.inr (.inr (.inr ((fun _ => none))))))), (q_15, .inr (3, [.int 0, .ref em, .int 0])), (q_18, .inl (cA_19, 1, .inr (.inr (.inr (.inl ((fun _ => 0))))))), (q_16, .inl (cA_17, 1, .inr (.inl ((fun _ => 0))))), (q_7, .inr (10, [.int 1, .int 9, .int 0, .int 99, .ref q_8, .ref q_9, .ref q_10, .int 0, .int 0, .int ((-1)), .ref q_15, .long 0]))] := hD
  have hK : va_K D vwCl [(cA_6, .int), (cA_13, .array (.object "TowerliftryModel$Car")), (cA_14, .object "TowerliftryModel$Car"), (cA_17, .long), (cA_19, .double)] s := hK
  refine W.widen (k := 15) (n := 355) (Nat.le_refl _) (Nat.le_refl _) ?_
  refine W.eq (g2 := F0 m 988 ls [.int 32]) rfl ?_
  refine lv_istore (lv' := [(7, .int 32), (6, .int 1), (5, .int 0), (4, .ref q_18), (3, .ref q_16), (2, .ref q_7), (1, .ref q_1), (0, .ref b)]) hx hb dL_law_988 hl (by decide) rfl (fun ls hl => ?_)
  refine lv_aload_n hx hb dL_law_990 rfl (lv_at hl 5 rfl) ?_
  have hPc := hP.sub (ws' := [(q_7, .inr (10, [.int 1, .int 9, .int 0, .int 99, .ref q_8, .ref q_9, .ref q_10, .int 0, .int 0, .int ((-1)), .ref q_15, .long 0]))]) [10] rfl
  have hDc := hD.sub (ws' := [(q_7, .inr (10, [.int 1, .int 9, .int 0, .int 99, .ref q_8, .ref q_9, .ref q_10, .int 0, .int 0, .int ((-1)), .ref q_15, .long 0]))]) [10] (by decide) rfl
  have hKc := hK.sub (tys' := []) [] rfl
  have hFc := va_free (wc := [(q_7, .inr (10, [.int 1, .int 9, .int 0, .int 99, .ref q_8, .ref q_9, .ref q_10, .int 0, .int 0, .int ((-1)), .ref q_15, .long 0]))]) hD hS hA [10] rfl
  refine va_calli (va_runV (As := []) (rest := []) ⟨hx, hb, hml, hown, hts⟩ (c_X6_thrown l hst em kw kb D q_7 1 9 0 99 q_8 q_9 q_10 0 0 ((-1)) q_15 0 _) (cwV 0 hts gL_law_X6_thrown rfl rfl rfl (by decide +kernel) ⟨(Nat.le_of_ble_eq_true rfl), (Nat.le_of_ble_eq_true rfl)⟩) (tw_preV hF hS hFc hPc hKc hDc (va_recv hKc hPc (ci := 10) (q0 := 0) rfl rfl)) rfl rfl hl.1 rfl (lv_room (Nat.le_of_ble_eq_true rfl)) dL_law_991 ⟨(Nat.le_of_ble_eq_true rfl), (Nat.le_of_ble_eq_true rfl)⟩) hS (fun q _ h => hFc q h) hFc (fun r u t H locs ht hvm hw hB hz1 hk1 hS => ?_)
  obtain ⟨rfl, rfl⟩ := hw
  obtain ⟨hP, hD, hK⟩ := tw_join (wr := [(q_3, .inr (3, [.int 0, .ref em, .int 0])), (q_4, .inr (5, [.ref q_5, .int 0])), (q_5, .inl (cA_6, 256, .inl ((fun _ => 0)))), (q_9, .inr (3, [.int 0, .ref em, .int 0])), (q_10, .inl (cA_13, 2, .inr (.inr (.inr (.inr ((tw_two q_11 q_12))))))), (q_11, .inl (cA_14, 24, .inr (.inr (.inr (.inr ((fun _ => none))))))), (q_12, .inl (cA_14, 24, .inr (.inr (.inr (.inr ((fun _ => none))))))), (q_15, .inr (3, [.int 0, .ref em, .int 0])), (q_18, .inl (cA_19, 1, .inr (.inr (.inr (.inl ((fun _ => 0))))))), (q_16, .inl (cA_17, 1, .inr (.inl ((fun _ => 0)))))]) hP hD hK [10] [0, 1, 2, 3, 4, 5, 6, 7, 8, 9] rfl rfl (by decide) (by decide) hk1 hFc ht hvm hB
  have hP : va_P D vwCl [(q_3, .inr (3, [.int 0, .ref em, .int 0])), (q_4, .inr (5, [.ref q_5, .int 0])), (q_5, .inl (cA_6, 256, .inl ((fun _ => 0)))), (q_9, .inr (3, [.int 0, .ref em, .int 0])), (q_10, .inl (cA_13, 2, .inr (.inr (.inr (.inr ((tw_two q_11 q_12))))))), (q_11, .inl (cA_14, 24, .inr (.inr (.inr (.inr ((fun _ => none))))))), (q_12, .inl (cA_14, 24, .inr (.inr (.inr (.inr ((fun _ => none))))))), (q_15, .inr (3, [.int 0, .ref em, .int 0])), (q_18, .inl (cA_19, 1, .inr (.inr (.inr (.inl ((fun _ => 0))))))), (q_16, .inl (cA_17, 1, .inr (.inl ((fun _ => 0))))), (q_7, .inr (10, [.int 1, .int 9, .int 0, .int 99, .ref q_8, .ref q_9, .ref q_10, .int 0, .int 0, .int ((-1)), .ref q_15, .long 0]))] _ := hP
  have hD : va_D A [(q_3, .inr (3, [.int 0, .ref em, .int 0])), (q_4, .inr (5, [.ref q_5, .int 0])), (q_5, .inl (cA_6, 256, .inl ((fun _ => 0)))), (q_9, .inr (3, [.int 0, .ref em, .int 0])), (q_10, .inl (cA_13, 2, .inr (.inr (.inr (.inr ((tw_two q_11 q_12))))))), (q_11, .inl (cA_14, 24, .inr (.inr (.inr (.inr ((fun _ => none))))))), (q_12, .inl (cA_14, 24, .inr (.inr (.inr (.inr ((fun _ => none))))))), (q_15, .inr (3, [.int 0, .ref em, .int 0])), (q_18, .inl (cA_19, 1, .inr (.inr (.inr (.inl ((fun _ => 0))))))), (q_16, .inl (cA_17, 1, .inr (.inl ((fun _ => 0))))), (q_7, .inr (10, [.int 1, .int 9, .int 0, .int 99, .ref q_8, .ref q_9, .ref q_10, .int 0, .int 0, .int ((-1)), .ref q_15, .long 0]))] := hD
  have hK : va_K D vwCl [(cA_6, .int), (cA_13, .array (.object "TowerliftryModel$Car")), (cA_14, .object "TowerliftryModel$Car"), (cA_17, .long), (cA_19, .double)] s := hK
  refine W.widen (k := 15) (n := 355) (Nat.le_refl _) (Nat.le_refl _) ?_
  refine W.eq (g2 := F0 m 994 ls [.int 1]) rfl ?_
  refine lv_iload hx hb dL_law_994 (lv_at hl 1 rfl) ?_
  refine lv_icmp_eq (tgt := 1001) hx hb dL_law_996 (by decide) (fun c9 => ?_) (fun c9 => absurd c9 (by decide))
  refine lv_iload hx hb dL_law_1001 (lv_at hl 1 rfl) ?_
  refine lv_if_ne (tgt := 1018) hx hb dL_law_1003 (by decide) (fun c9 => ?_) (fun c9 => absurd c9 (by decide))
  refine lv_goto (tgt := 2056) hx hb dL_law_1018 (by decide) ?_
  refine W.widen (k := 20000) (n := 60000) (Nat.le_of_ble_eq_true rfl) (Nat.le_of_ble_eq_true rfl) ?_
  exact tw_tail C0 hAe hS (lv_sub hl [2, 7] rfl)
set_option maxHeartbeats 4000000 in
set_option maxRecDepth 100000 in
theorem tw_case_13 {p : Program} {l : Launch} {e : Env} {s : State} {m : MethodId} {below : List Frame} {meth : Method} {c : Code} {b : Nat} {xs : Nat → Int32} (C0 : lw_At p s m meth c b 6 xs) (hst : l.stackTraces = false) {A : Nat → Prop} (hAe : A = fun q : Nat => s.heap.size ≤ q) (em kw kb : Nat) (D : va_G) (hF : tw_F em kw kb A s) (q_1 : Nat) (q_2 : Nat) (q_3 : Nat) (q_4 : Nat) (q_5 : Nat) (cA_6 : ClassId) (q_7 : Nat) (q_8 : Nat) (q_9 : Nat) (q_10 : Nat) (q_11 : Nat) (q_12 : Nat) (cA_13 : ClassId) (cA_14 : ClassId) (q_15 : Nat) (q_16 : Nat) (cA_17 : ClassId) (q_18 : Nat) (cA_19 : ClassId) (H : Heap) (locs : List Loc) (hK : va_K D vwCl [(cA_6, .int), (cA_13, .array (.object "TowerliftryModel$Car")), (cA_14, .object "TowerliftryModel$Car"), (cA_17, .long), (cA_19, .double)] s) (hP : va_P D vwCl [(q_1, .inr (7, [.ref q_2, .ref q_3, .ref q_4, .int 9, .int 99, .int 0, .int 0, .int 0, .int ((-1)), .int 0, .int 0, .long 0])), (q_2, .inr (3, [.int 0, .ref em, .int 0])), (q_3, .inr (3, [.int 0, .ref em, .int 0])), (q_4, .inr (5, [.ref q_5, .int 0])), (q_5, .inl (cA_6, 256, .inl ((fun _ => 0)))), (q_7, .inr (10, [.int 0, .int 9, .int 0, .int 99, .ref q_8, .ref q_9, .ref q_10, .int 0, .int 0, .int ((-1)), .ref q_15, .long 0])), (q_8, .inr (3, [.int 0, .ref em, .int 0])), (q_9, .inr (3, [.int 0, .ref em, .int 0])), (q_10, .inl (cA_13, 2, .inr (.inr (.inr (.inr ((tw_two q_11 q_12))))))), (q_11, .inl (cA_14, 24, .inr (.inr (.inr (.inr ((fun _ => none))))))), (q_12, .inl (cA_14, 24, .inr (.inr (.inr (.inr ((fun _ => none))))))), (q_15, .inr (3, [.int 0, .ref em, .int 0])), (q_16, .inl (cA_17, 1, .inr (.inl ((fun _ => 0))))), (q_18, .inl (cA_19, 1, .inr (.inr (.inr (.inl ((fun _ => 0)))))))] H) (hD : va_D A [(q_1, .inr (7, [.ref q_2, .ref q_3, .ref q_4, .int 9, .int 99, .int 0, .int 0, .int 0, .int ((-1)), .int 0, .int 0, .long 0])), (q_2, .inr (3, [.int 0, .ref em, .int 0])), (q_3, .inr (3, [.int 0, .ref em, .int 0])), (q_4, .inr (5, [.ref q_5, .int 0])), (q_5, .inl (cA_6, 256, .inl ((fun _ => 0)))), (q_7, .inr (10, [.int 0, .int 9, .int 0, .int 99, .ref q_8, .ref q_9, .ref q_10, .int 0, .int 0, .int ((-1)), .ref q_15, .long 0])), (q_8, .inr (3, [.int 0, .ref em, .int 0])), (q_9, .inr (3, [.int 0, .ref em, .int 0])), (q_10, .inl (cA_13, 2, .inr (.inr (.inr (.inr ((tw_two q_11 q_12))))))), (q_11, .inl (cA_14, 24, .inr (.inr (.inr (.inr ((fun _ => none))))))), (q_12, .inl (cA_14, 24, .inr (.inr (.inr (.inr ((fun _ => none))))))), (q_15, .inr (3, [.int 0, .ref em, .int 0])), (q_16, .inl (cA_17, 1, .inr (.inl ((fun _ => 0))))), (q_18, .inl (cA_19, 1, .inr (.inr (.inr (.inl ((fun _ => 0)))))))]) (hS : va_S A s.heap H locs) (ls : Array Slot) (hl : lv_has ls 9 [(5, .int 0), (4, .ref q_18), (3, .ref q_16), (2, .ref q_7), (1, .ref q_1), (0, .ref b)]) : W p l e room_1 s m #[Value.ref b] below meth c H locs 14 349 (lw_Z below #[Value.ref b] s) (F0 m 1021 ls []) := by
  obtain ⟨hx, hb, hr, hml, hown, hts0, hX, hbl, hlocks, hgv⟩ := id C0
  have hown : s.vm.findClass RL = some m.cls := hown
  have hts : ∀ w ∈ wsL_law, w.before #[Value.ref b] s = true := fun w h => hts0 w (wsL_law_in w h)
  have hA : ∀ q : Nat, s.heap.size ≤ q → A q := fun q h => by rw [hAe]; exact h
  have hbA : ¬ A b := by rw [hAe]; exact Nat.not_le.mpr hbl
  refine lv_aload_n hx hb dL_law_1021 rfl (lv_at hl 4 rfl) ?_
  refine lv_aload_n hx hb dL_law_1022 rfl (lv_at hl 5 rfl) ?_
  refine lv_iload hx hb dL_law_1023 (lv_at hl 0 rfl) ?_
  refine lv_iconst (v := 1) hx hb dL_law_1025 (by decide) ?_
  refine lv_iadd hx hb dL_law_1026 ?_
  refine lv_topi (fun z_1 ez_1 => ?_)
  have ez_1 : z_1 = (1 : Int32) := ez_1.trans (by decide)
  subst ez_1
  refine va_sld hx hb hX hbl hbA hS (by unfold vp_in; decide) dL_law_1027 ?_
  rw [show (1 : Int32).toNatClampNeg = 1 from by decide]
  refine lv_aload_n hx hb dL_law_1028 rfl (lv_at hl 2 rfl) ?_
  have hPc := hP.sub (ws' := [(q_1, .inr (7, [.ref q_2, .ref q_3, .ref q_4, .int 9, .int 99, .int 0, .int 0, .int 0, .int ((-1)), .int 0, .int 0, .long 0])), (q_2, .inr (3, [.int 0, .ref em, .int 0])), (q_16, .inl (cA_17, 1, .inr (.inl ((fun _ => 0)))))]) [0, 1, 12] rfl
  have hDc := hD.sub (ws' := [(q_1, .inr (7, [.ref q_2, .ref q_3, .ref q_4, .int 9, .int 99, .int 0, .int 0, .int 0, .int ((-1)), .int 0, .int 0, .long 0])), (q_2, .inr (3, [.int 0, .ref em, .int 0])), (q_16, .inl (cA_17, 1, .inr (.inl ((fun _ => 0)))))]) [0, 1, 12] (by decide) rfl
  have hKc := hK.sub (tys' := [(cA_17, .long)]) [3] rfl
  have hFc := va_free (wc := [(q_1, .inr (7, [.ref q_2, .ref q_3, .ref q_4, .int 9, .int 99, .int 0, .int 0, .int 0, .int ((-1)), .int 0, .int 0, .long 0])), (q_2, .inr (3, [.int 0, .ref em, .int 0])), (q_16, .inl (cA_17, 1, .inr (.inl ((fun _ => 0)))))]) hD hS hA [0, 1, 12] rfl
  refine va_calli (vx_runSW (As := [.ref q_1, .int ((xs 1)), .ref q_16]) (rest := []) ⟨hx, hb, hml, hown, hts⟩ (c_L_isOpen l hst em kw kb D q_1 ((xs 1)) q_16 q_2 q_3 q_4 cA_17 _) (vx_cwSW 3 hts gL_law_L_isOpen rfl rfl rfl (by decide +kernel) ⟨(Nat.le_of_ble_eq_true rfl), (Nat.le_of_ble_eq_true rfl)⟩) (tw_preS hF hS hFc hPc hKc hDc) rfl rfl hl.1 rfl (lv_room (Nat.le_of_ble_eq_true rfl)) dL_law_1029 ⟨(Nat.le_of_ble_eq_true rfl), (Nat.le_of_ble_eq_true rfl)⟩) hS (fun q _ h => hFc q h) hFc (fun r u t H locs ht hvm hw hB hz1 hk1 hS => ?_)
  obtain ⟨rfl, rfl⟩ := hw
  obtain ⟨hP, hD, hK⟩ := tw_join (wr := [(q_3, .inr (3, [.int 0, .ref em, .int 0])), (q_4, .inr (5, [.ref q_5, .int 0])), (q_5, .inl (cA_6, 256, .inl ((fun _ => 0)))), (q_7, .inr (10, [.int 0, .int 9, .int 0, .int 99, .ref q_8, .ref q_9, .ref q_10, .int 0, .int 0, .int ((-1)), .ref q_15, .long 0])), (q_8, .inr (3, [.int 0, .ref em, .int 0])), (q_9, .inr (3, [.int 0, .ref em, .int 0])), (q_10, .inl (cA_13, 2, .inr (.inr (.inr (.inr ((tw_two q_11 q_12))))))), (q_11, .inl (cA_14, 24, .inr (.inr (.inr (.inr ((fun _ => none))))))), (q_12, .inl (cA_14, 24, .inr (.inr (.inr (.inr ((fun _ => none))))))), (q_15, .inr (3, [.int 0, .ref em, .int 0])), (q_18, .inl (cA_19, 1, .inr (.inr (.inr (.inl ((fun _ => 0)))))))]) hP hD hK [0, 1, 12] [2, 3, 4, 5, 6, 7, 8, 9, 10, 11, 13] rfl rfl (by decide) (by decide) hk1 hFc ht hvm hB
  have hP : va_P D vwCl [(q_3, .inr (3, [.int 0, .ref em, .int 0])), (q_4, .inr (5, [.ref q_5, .int 0])), (q_5, .inl (cA_6, 256, .inl ((fun _ => 0)))), (q_7, .inr (10, [.int 0, .int 9, .int 0, .int 99, .ref q_8, .ref q_9, .ref q_10, .int 0, .int 0, .int ((-1)), .ref q_15, .long 0])), (q_8, .inr (3, [.int 0, .ref em, .int 0])), (q_9, .inr (3, [.int 0, .ref em, .int 0])), (q_10, .inl (cA_13, 2, .inr (.inr (.inr (.inr ((tw_two q_11 q_12))))))), (q_11, .inl (cA_14, 24, .inr (.inr (.inr (.inr ((fun _ => none))))))), (q_12, .inl (cA_14, 24, .inr (.inr (.inr (.inr ((fun _ => none))))))), (q_15, .inr (3, [.int 0, .ref em, .int 0])), (q_18, .inl (cA_19, 1, .inr (.inr (.inr (.inl ((fun _ => 0))))))), (q_16, .inl (cA_17, 1, .inr (.inl ((fun _ => 0)))))] _ := hP
  have hD : va_D A [(q_3, .inr (3, [.int 0, .ref em, .int 0])), (q_4, .inr (5, [.ref q_5, .int 0])), (q_5, .inl (cA_6, 256, .inl ((fun _ => 0)))), (q_7, .inr (10, [.int 0, .int 9, .int 0, .int 99, .ref q_8, .ref q_9, .ref q_10, .int 0, .int 0, .int ((-1)), .ref q_15, .long 0])), (q_8, .inr (3, [.int 0, .ref em, .int 0])), (q_9, .inr (3, [.int 0, .ref em, .int 0])), (q_10, .inl (cA_13, 2, .inr (.inr (.inr (.inr ((tw_two q_11 q_12))))))), (q_11, .inl (cA_14, 24, .inr (.inr (.inr (.inr ((fun _ => none))))))), (q_12, .inl (cA_14, 24, .inr (.inr (.inr (.inr ((fun _ => none))))))), (q_15, .inr (3, [.int 0, .ref em, .int 0])), (q_18, .inl (cA_19, 1, .inr (.inr (.inr (.inl ((fun _ => 0))))))), (q_16, .inl (cA_17, 1, .inr (.inl ((fun _ => 0)))))] := hD
  have hK : va_K D vwCl [(cA_6, .int), (cA_13, .array (.object "TowerliftryModel$Car")), (cA_14, .object "TowerliftryModel$Car"), (cA_17, .long), (cA_19, .double)] s := hK
  refine W.widen (k := 15) (n := 355) (Nat.le_refl _) (Nat.le_refl _) ?_
  refine W.eq (g2 := F0 m 1032 ls [.int 1]) rfl ?_
  refine lv_istore (lv' := [(6, .int 1), (5, .int 0), (4, .ref q_18), (3, .ref q_16), (2, .ref q_7), (1, .ref q_1), (0, .ref b)]) hx hb dL_law_1032 hl (by decide) rfl (fun ls hl => ?_)
  refine lv_aload_n hx hb dL_law_1034 rfl (lv_at hl 4 rfl) ?_
  refine lv_aload_n hx hb dL_law_1035 rfl (lv_at hl 6 rfl) ?_
  refine lv_iload hx hb dL_law_1036 (lv_at hl 1 rfl) ?_
  refine lv_iconst (v := 1) hx hb dL_law_1038 (by decide) ?_
  refine lv_iadd hx hb dL_law_1039 ?_
  refine lv_topi (fun z_2 ez_2 => ?_)
  have ez_2 : z_2 = (1 : Int32) := ez_2.trans (by decide)
  subst ez_2
  refine va_sld hx hb hX hbl hbA hS (by unfold vp_in; decide) dL_law_1040 ?_
  rw [show (1 : Int32).toNatClampNeg = 1 from by decide]
  have hPc := hP.sub (ws' := [(q_7, .inr (10, [.int 0, .int 9, .int 0, .int 99, .ref q_8, .ref q_9, .ref q_10, .int 0, .int 0, .int ((-1)), .ref q_15, .long 0])), (q_8, .inr (3, [.int 0, .ref em, .int 0]))]) [3, 4] rfl
  have hDc := hD.sub (ws' := [(q_7, .inr (10, [.int 0, .int 9, .int 0, .int 99, .ref q_8, .ref q_9, .ref q_10, .int 0, .int 0, .int ((-1)), .ref q_15, .long 0])), (q_8, .inr (3, [.int 0, .ref em, .int 0]))]) [3, 4] (by decide) rfl
  have hKc := hK.sub (tys' := []) [] rfl
  have hFc := va_free (wc := [(q_7, .inr (10, [.int 0, .int 9, .int 0, .int 99, .ref q_8, .ref q_9, .ref q_10, .int 0, .int 0, .int ((-1)), .ref q_15, .long 0])), (q_8, .inr (3, [.int 0, .ref em, .int 0]))]) hD hS hA [3, 4] rfl
  refine va_calli (va_runV (As := [.int ((xs 1))]) (rest := []) ⟨hx, hb, hml, hown, hts⟩ (c_X6_isOpen l hst em kw kb D q_7 ((xs 1)) q_8 q_9 q_10 q_15 _) (cwV 1 hts gL_law_X6_isOpen rfl rfl rfl (by decide +kernel) ⟨(Nat.le_of_ble_eq_true rfl), (Nat.le_of_ble_eq_true rfl)⟩) (tw_preV hF hS hFc hPc hKc hDc (va_recv hKc hPc (ci := 10) (q0 := 0) rfl rfl)) rfl rfl hl.1 rfl (lv_room (Nat.le_of_ble_eq_true rfl)) dL_law_1041 ⟨(Nat.le_of_ble_eq_true rfl), (Nat.le_of_ble_eq_true rfl)⟩) hS (fun q _ h => hFc q h) hFc (fun r u t H locs ht hvm hw hB hz1 hk1 hS => ?_)
  obtain ⟨rfl, rfl⟩ := hw
  obtain ⟨hP, hD, hK⟩ := tw_join (wr := [(q_3, .inr (3, [.int 0, .ref em, .int 0])), (q_4, .inr (5, [.ref q_5, .int 0])), (q_5, .inl (cA_6, 256, .inl ((fun _ => 0)))), (q_9, .inr (3, [.int 0, .ref em, .int 0])), (q_10, .inl (cA_13, 2, .inr (.inr (.inr (.inr ((tw_two q_11 q_12))))))), (q_11, .inl (cA_14, 24, .inr (.inr (.inr (.inr ((fun _ => none))))))), (q_12, .inl (cA_14, 24, .inr (.inr (.inr (.inr ((fun _ => none))))))), (q_15, .inr (3, [.int 0, .ref em, .int 0])), (q_18, .inl (cA_19, 1, .inr (.inr (.inr (.inl ((fun _ => 0))))))), (q_16, .inl (cA_17, 1, .inr (.inl ((fun _ => 0)))))]) hP hD hK [3, 4] [0, 1, 2, 5, 6, 7, 8, 9, 10, 11] rfl rfl (by decide) (by decide) hk1 hFc ht hvm hB
  have hP : va_P D vwCl [(q_3, .inr (3, [.int 0, .ref em, .int 0])), (q_4, .inr (5, [.ref q_5, .int 0])), (q_5, .inl (cA_6, 256, .inl ((fun _ => 0)))), (q_9, .inr (3, [.int 0, .ref em, .int 0])), (q_10, .inl (cA_13, 2, .inr (.inr (.inr (.inr ((tw_two q_11 q_12))))))), (q_11, .inl (cA_14, 24, .inr (.inr (.inr (.inr ((fun _ => none))))))), (q_12, .inl (cA_14, 24, .inr (.inr (.inr (.inr ((fun _ => none))))))), (q_15, .inr (3, [.int 0, .ref em, .int 0])), (q_18, .inl (cA_19, 1, .inr (.inr (.inr (.inl ((fun _ => 0))))))), (q_16, .inl (cA_17, 1, .inr (.inl ((fun _ => 0))))), (q_7, .inr (10, [.int 1, .int 9, .int 0, .int 99, .ref q_8, .ref q_9, .ref q_10, .int 0, .int 0, .int ((-1)), .ref q_15, .long 0]))] _ := hP
  have hD : va_D A [(q_3, .inr (3, [.int 0, .ref em, .int 0])), (q_4, .inr (5, [.ref q_5, .int 0])), (q_5, .inl (cA_6, 256, .inl ((fun _ => 0)))), (q_9, .inr (3, [.int 0, .ref em, .int 0])), (q_10, .inl (cA_13, 2, .inr (.inr (.inr (.inr ((tw_two q_11 q_12))))))), (q_11, .inl (cA_14, 24, .inr (.inr (.inr (.inr ((fun _ => none))))))), (q_12, .inl (cA_14, 24, .inr (.inr (.inr (.inr ((fun _ => none))))))), (q_15, .inr (3, [.int 0, .ref em, .int 0])), (q_18, .inl (cA_19, 1, .inr (.inr (.inr (.inl ((fun _ => 0))))))), (q_16, .inl (cA_17, 1, .inr (.inl ((fun _ => 0))))), (q_7, .inr (10, [.int 1, .int 9, .int 0, .int 99, .ref q_8, .ref q_9, .ref q_10, .int 0, .int 0, .int ((-1)), .ref q_15, .long 0]))] := hD
  have hK : va_K D vwCl [(cA_6, .int), (cA_13, .array (.object "TowerliftryModel$Car")), (cA_14, .object "TowerliftryModel$Car"), (cA_17, .long), (cA_19, .double)] s := hK
  refine W.widen (k := 15) (n := 355) (Nat.le_refl _) (Nat.le_refl _) ?_
  refine W.eq (g2 := F0 m 1044 ls [.int 0]) rfl ?_
  refine lv_istore (lv' := [(7, .int 0), (6, .int 1), (5, .int 0), (4, .ref q_18), (3, .ref q_16), (2, .ref q_7), (1, .ref q_1), (0, .ref b)]) hx hb dL_law_1044 hl (by decide) rfl (fun ls hl => ?_)
  refine lv_aload_n hx hb dL_law_1046 rfl (lv_at hl 5 rfl) ?_
  have hPc := hP.sub (ws' := [(q_7, .inr (10, [.int 1, .int 9, .int 0, .int 99, .ref q_8, .ref q_9, .ref q_10, .int 0, .int 0, .int ((-1)), .ref q_15, .long 0]))]) [10] rfl
  have hDc := hD.sub (ws' := [(q_7, .inr (10, [.int 1, .int 9, .int 0, .int 99, .ref q_8, .ref q_9, .ref q_10, .int 0, .int 0, .int ((-1)), .ref q_15, .long 0]))]) [10] (by decide) rfl
  have hKc := hK.sub (tys' := []) [] rfl
  have hFc := va_free (wc := [(q_7, .inr (10, [.int 1, .int 9, .int 0, .int 99, .ref q_8, .ref q_9, .ref q_10, .int 0, .int 0, .int ((-1)), .ref q_15, .long 0]))]) hD hS hA [10] rfl
  refine va_calli (va_runV (As := []) (rest := []) ⟨hx, hb, hml, hown, hts⟩ (c_X6_thrown l hst em kw kb D q_7 1 9 0 99 q_8 q_9 q_10 0 0 ((-1)) q_15 0 _) (cwV 0 hts gL_law_X6_thrown rfl rfl rfl (by decide +kernel) ⟨(Nat.le_of_ble_eq_true rfl), (Nat.le_of_ble_eq_true rfl)⟩) (tw_preV hF hS hFc hPc hKc hDc (va_recv hKc hPc (ci := 10) (q0 := 0) rfl rfl)) rfl rfl hl.1 rfl (lv_room (Nat.le_of_ble_eq_true rfl)) dL_law_1047 ⟨(Nat.le_of_ble_eq_true rfl), (Nat.le_of_ble_eq_true rfl)⟩) hS (fun q _ h => hFc q h) hFc (fun r u t H locs ht hvm hw hB hz1 hk1 hS => ?_)
  obtain ⟨rfl, rfl⟩ := hw
  obtain ⟨hP, hD, hK⟩ := tw_join (wr := [(q_3, .inr (3, [.int 0, .ref em, .int 0])), (q_4, .inr (5, [.ref q_5, .int 0])), (q_5, .inl (cA_6, 256, .inl ((fun _ => 0)))), (q_9, .inr (3, [.int 0, .ref em, .int 0])), (q_10, .inl (cA_13, 2, .inr (.inr (.inr (.inr ((tw_two q_11 q_12))))))), (q_11, .inl (cA_14, 24, .inr (.inr (.inr (.inr ((fun _ => none))))))), (q_12, .inl (cA_14, 24, .inr (.inr (.inr (.inr ((fun _ => none))))))), (q_15, .inr (3, [.int 0, .ref em, .int 0])), (q_18, .inl (cA_19, 1, .inr (.inr (.inr (.inl ((fun _ => 0))))))), (q_16, .inl (cA_17, 1, .inr (.inl ((fun _ => 0)))))]) hP hD hK [10] [0, 1, 2, 3, 4, 5, 6, 7, 8, 9] rfl rfl (by decide) (by decide) hk1 hFc ht hvm hB
  have hP : va_P D vwCl [(q_3, .inr (3, [.int 0, .ref em, .int 0])), (q_4, .inr (5, [.ref q_5, .int 0])), (q_5, .inl (cA_6, 256, .inl ((fun _ => 0)))), (q_9, .inr (3, [.int 0, .ref em, .int 0])), (q_10, .inl (cA_13, 2, .inr (.inr (.inr (.inr ((tw_two q_11 q_12))))))), (q_11, .inl (cA_14, 24, .inr (.inr (.inr (.inr ((fun _ => none))))))), (q_12, .inl (cA_14, 24, .inr (.inr (.inr (.inr ((fun _ => none))))))), (q_15, .inr (3, [.int 0, .ref em, .int 0])), (q_18, .inl (cA_19, 1, .inr (.inr (.inr (.inl ((fun _ => 0))))))), (q_16, .inl (cA_17, 1, .inr (.inl ((fun _ => 0))))), (q_7, .inr (10, [.int 1, .int 9, .int 0, .int 99, .ref q_8, .ref q_9, .ref q_10, .int 0, .int 0, .int ((-1)), .ref q_15, .long 0]))] _ := hP
  have hD : va_D A [(q_3, .inr (3, [.int 0, .ref em, .int 0])), (q_4, .inr (5, [.ref q_5, .int 0])), (q_5, .inl (cA_6, 256, .inl ((fun _ => 0)))), (q_9, .inr (3, [.int 0, .ref em, .int 0])), (q_10, .inl (cA_13, 2, .inr (.inr (.inr (.inr ((tw_two q_11 q_12))))))), (q_11, .inl (cA_14, 24, .inr (.inr (.inr (.inr ((fun _ => none))))))), (q_12, .inl (cA_14, 24, .inr (.inr (.inr (.inr ((fun _ => none))))))), (q_15, .inr (3, [.int 0, .ref em, .int 0])), (q_18, .inl (cA_19, 1, .inr (.inr (.inr (.inl ((fun _ => 0))))))), (q_16, .inl (cA_17, 1, .inr (.inl ((fun _ => 0))))), (q_7, .inr (10, [.int 1, .int 9, .int 0, .int 99, .ref q_8, .ref q_9, .ref q_10, .int 0, .int 0, .int ((-1)), .ref q_15, .long 0]))] := hD
  have hK : va_K D vwCl [(cA_6, .int), (cA_13, .array (.object "TowerliftryModel$Car")), (cA_14, .object "TowerliftryModel$Car"), (cA_17, .long), (cA_19, .double)] s := hK
  refine W.widen (k := 15) (n := 355) (Nat.le_refl _) (Nat.le_refl _) ?_
  refine W.eq (g2 := F0 m 1050 ls [.int 1]) rfl ?_
  refine lv_iload hx hb dL_law_1050 (lv_at hl 1 rfl) ?_
  refine lv_icmp_eq (tgt := 1057) hx hb dL_law_1052 (by decide) (fun c9 => ?_) (fun c9 => absurd c9 (by decide))
  refine lv_iload hx hb dL_law_1057 (lv_at hl 1 rfl) ?_
  refine lv_if_ne (tgt := 1081) hx hb dL_law_1059 (by decide) (fun c9 => ?_) (fun c9 => absurd c9 (by decide))
  refine lv_goto (tgt := 2056) hx hb dL_law_1081 (by decide) ?_
  refine W.widen (k := 20000) (n := 60000) (Nat.le_of_ble_eq_true rfl) (Nat.le_of_ble_eq_true rfl) ?_
  exact tw_tail C0 hAe hS (lv_sub hl [2, 7] rfl)
