theorem dL_law_853 : decode cL_law 853 = .ok (.aload_n 1, 1) := by decide +kernel
theorem dL_law_854 : decode cL_law 854 = .ok (.aload_n 0, 1) := by decide +kernel
theorem dL_law_855 : decode cL_law 855 = .ok (.iload 5, 2) := by decide +kernel
theorem dL_law_857 : decode cL_law 857 = .ok (.iconst 1, 1) := by decide +kernel
theorem dL_law_858 : decode cL_law 858 = .ok (.iadd, 1) := by decide +kernel
theorem dL_law_859 : decode cL_law 859 = .ok (.iaload, 1) := by decide +kernel
theorem dL_law_860 : decode cL_law 860 = .ok (.aload_n 3, 1) := by decide +kernel
set_option maxRecDepth 20000 in
theorem ggL_law_L_floorOf_c0 : GoodIn wsL_law [Cond.codeWith yL_floorOf cL_floorOf 4 (some .int) [(0, 9, 12, 35)]] := goodIn_r _ [802] (by decide +kernel) (by decide +kernel)
set_option maxRecDepth 20000 in
theorem ggL_law_L_floorOf_c1 : GoodIn wsL_law wsL_floorOf_r1 := goodIn_r _ [361, 803, 804, 805, 2, 806, 499, 367, 368, 369, 370, 371, 372, 17, 122, 124, 125, 126, 16, 127, 78, 128, 129, 130] (by decide +kernel) (by decide +kernel)
set_option maxRecDepth 20000 in
theorem ggL_law_L_floorOf_c2 : GoodIn wsL_law wsL_floorOf_r2 := goodIn_r _ [131, 132, 133, 134, 135, 136, 137, 138, 139, 140, 141, 142, 143, 30] (by decide +kernel) (by decide +kernel)
set_option maxRecDepth 20000 in
theorem ggL_law_L_floorOf_c3 : GoodIn wsL_law wsX00 := goodIn_r _ [1201, 1202, 1203, 1204, 1205, 1206, 1207, 1208, 1209, 1210, 1211, 1212, 1213, 1214, 1215, 1216, 1217, 1218, 1219] (by decide +kernel) (by decide +kernel)
set_option maxRecDepth 20000 in
theorem ggL_law_L_floorOf_c4 : GoodIn wsL_law wsX30 := goodIn_r _ [1172, 1173, 1174, 1175, 1176, 1177, 1178, 1179, 1180, 1181, 1182, 1183] (by decide +kernel) (by decide +kernel)
set_option maxRecDepth 20000 in
theorem ggL_law_L_floorOf_c5 : GoodIn wsL_law wsJx4a65c0 := goodIn_r _ [1196, 1197, 1198] (by decide +kernel) (by decide +kernel)
set_option maxRecDepth 20000 in
theorem ggL_law_L_floorOf : GoodIn wsL_law wsL_floorOf := goodIn_ca (goodIn_ca (tw_gc ggL_law_L_floorOf_c0 (goodIn_app (goodIn_app (goodIn_app (goodIn_app ggL_law_L_floorOf_c1 ggL_law_L_floorOf_c2) ggL_law_L_floorOf_c3) ggL_law_L_floorOf_c4) ggL_law_L_floorOf_c5)) (goodIn_sub (fun _ h => List.mem_append_left _ (List.mem_append_left _ (List.mem_append_left _ (List.mem_append_left _ (List.mem_append_left _ (List.mem_append_left _ (List.mem_append_left _ (List.mem_append_right _ h)))))))) (by decide +kernel))) (goodIn_sub (fun _ h => List.mem_append_left _ (List.mem_append_left _ (List.mem_append_left _ (List.mem_append_right _ h)))) (by decide +kernel))
set_option maxRecDepth 20000 in
theorem gL_law_L_floorOf : GoodIn wsL_law (va_wsS RL 162 yL_floorOf wsL_floorOf) := goodIn_app (goodIn_of _ (by decide +kernel)) ggL_law_L_floorOf
theorem dL_law_861 : decode cL_law 861 = .ok (.invokestatic 162, 3) := by decide +kernel
theorem dL_law_864 : decode cL_law 864 = .ok (.istore 6, 2) := by decide +kernel
theorem dL_law_866 : decode cL_law 866 = .ok (.aload_n 2, 1) := by decide +kernel
theorem dL_law_867 : decode cL_law 867 = .ok (.aload_n 0, 1) := by decide +kernel
theorem dL_law_868 : decode cL_law 868 = .ok (.iload 5, 2) := by decide +kernel
theorem dL_law_870 : decode cL_law 870 = .ok (.iconst 1, 1) := by decide +kernel
theorem dL_law_871 : decode cL_law 871 = .ok (.iadd, 1) := by decide +kernel
theorem dL_law_872 : decode cL_law 872 = .ok (.iaload, 1) := by decide +kernel
set_option maxRecDepth 20000 in
theorem ggL_law_X6_floorOf_c0 : GoodIn wsL_law [Cond.code yX6_floorOf cX6_floorOf 2 (some .int)] := goodIn_r _ [810] (by decide +kernel) (by decide +kernel)
set_option maxRecDepth 20000 in
theorem ggL_law_X6_floorOf_c1 : GoodIn wsL_law wsX6_floorOf_r1 := goodIn_r _ [54, 237, 381, 382, 383, 5, 384, 283, 125, 126, 16, 127, 78, 83, 84, 85, 385, 129, 130, 131, 132, 133, 134, 135] (by decide +kernel) (by decide +kernel)
set_option maxRecDepth 20000 in
theorem ggL_law_X6_floorOf_c2 : GoodIn wsL_law wsX6_floorOf_r2 := goodIn_r _ [136, 137, 138, 139, 140, 141, 142, 143, 30, 92, 93, 94, 95, 90, 86, 87, 88, 89] (by decide +kernel) (by decide +kernel)
set_option maxRecDepth 20000 in
theorem ggL_law_X6_floorOf_c3 : GoodIn wsL_law wsX60 := goodIn_r _ [1184, 1185, 1186, 1187, 1188, 1189, 1190, 1191, 1192, 1193, 1194, 1195] (by decide +kernel) (by decide +kernel)
set_option maxRecDepth 20000 in
theorem ggL_law_X6_floorOf_c4 : GoodIn wsL_law wsX40 := goodIn_r _ [1220, 1221, 1222, 1223, 1224, 1225, 1226, 1227, 1228, 1229, 1230, 1231, 1232, 1233] (by decide +kernel) (by decide +kernel)
set_option maxRecDepth 20000 in
theorem ggL_law_X6_floorOf_c5 : GoodIn wsL_law wsJx4a65c0 := goodIn_r _ [1196, 1197, 1198] (by decide +kernel) (by decide +kernel)
set_option maxRecDepth 20000 in
theorem ggL_law_X6_floorOf : GoodIn wsL_law wsX6_floorOf := tw_gc ggL_law_X6_floorOf_c0 (goodIn_app (goodIn_app (goodIn_app (goodIn_app ggL_law_X6_floorOf_c1 ggL_law_X6_floorOf_c2) ggL_law_X6_floorOf_c3) ggL_law_X6_floorOf_c4) ggL_law_X6_floorOf_c5)
set_option maxRecDepth 20000 in
theorem gL_law_X6_floorOf : GoodIn wsL_law (wsV RL 164 RX6 yX6_floorOf wsX6_floorOf) := goodIn_app (goodIn_of _ (by decide +kernel)) ggL_law_X6_floorOf
theorem dL_law_873 : decode cL_law 873 = .ok (.invokevirtual 164, 3) := by decide +kernel
theorem dL_law_876 : decode cL_law 876 = .ok (.istore 7, 2) := by decide +kernel
theorem dL_law_878 : decode cL_law 878 = .ok (.aload_n 2, 1) := by decide +kernel
theorem dL_law_879 : decode cL_law 879 = .ok (.invokevirtual 127, 3) := by decide +kernel
theorem dL_law_882 : decode cL_law 882 = .ok (.iload 6, 2) := by decide +kernel
theorem dL_law_884 : decode cL_law 884 = .ok (.if_icmp .eq 5, 3) := by decide +kernel
theorem dL_law_889 : decode cL_law 889 = .ok (.iload 6, 2) := by decide +kernel
theorem dL_law_891 : decode cL_law 891 = .ok (.ifCond .ne 15, 3) := by decide +kernel
theorem dL_law_906 : decode cL_law 906 = .ok (.goto 1150, 3) := by decide +kernel
theorem dL_law_909 : decode cL_law 909 = .ok (.aload_n 1, 1) := by decide +kernel
theorem dL_law_910 : decode cL_law 910 = .ok (.aload_n 0, 1) := by decide +kernel
theorem dL_law_911 : decode cL_law 911 = .ok (.iload 5, 2) := by decide +kernel
theorem dL_law_913 : decode cL_law 913 = .ok (.iconst 1, 1) := by decide +kernel
theorem dL_law_914 : decode cL_law 914 = .ok (.iadd, 1) := by decide +kernel
theorem dL_law_915 : decode cL_law 915 = .ok (.iaload, 1) := by decide +kernel
theorem dL_law_916 : decode cL_law 916 = .ok (.aload_n 3, 1) := by decide +kernel
set_option maxRecDepth 20000 in
theorem ggL_law_L_floorByLog_c0 : GoodIn wsL_law [Cond.codeWith yL_floorByLog cL_floorByLog 4 (some .int) [(0, 9, 12, 35)]] := goodIn_r _ [813] (by decide +kernel) (by decide +kernel)
set_option maxRecDepth 20000 in
theorem ggL_law_L_floorByLog_c1 : GoodIn wsL_law wsL_floorByLog_r1 := goodIn_r _ [361, 814, 815, 816, 2, 817, 367, 368, 369, 370, 371, 372, 17, 122, 124, 125, 126, 16, 127, 78, 128, 129, 130, 131] (by decide +kernel) (by decide +kernel)
set_option maxRecDepth 20000 in
theorem ggL_law_L_floorByLog_c2 : GoodIn wsL_law wsL_floorByLog_r2 := goodIn_r _ [132, 133, 134, 135, 136, 137, 138, 139, 140, 141, 142, 143, 30, 818, 819, 820, 821, 596, 822, 22, 823, 824, 825, 21] (by decide +kernel) (by decide +kernel)
set_option maxRecDepth 20000 in
theorem ggL_law_L_floorByLog_c3 : GoodIn wsL_law wsL_floorByLog_r3 := goodIn_r _ [826, 827, 828, 829, 830, 46] (by decide +kernel) (by decide +kernel)
set_option maxRecDepth 20000 in
theorem ggL_law_L_floorByLog_c4 : GoodIn wsL_law wsX30 := goodIn_r _ [1172, 1173, 1174, 1175, 1176, 1177, 1178, 1179, 1180, 1181, 1182, 1183] (by decide +kernel) (by decide +kernel)
set_option maxRecDepth 20000 in
theorem ggL_law_L_floorByLog_c5 : GoodIn wsL_law wsJx4a65c0 := goodIn_r _ [1196, 1197, 1198] (by decide +kernel) (by decide +kernel)
set_option maxRecDepth 20000 in
theorem ggL_law_L_floorByLog_c6 : GoodIn wsL_law wsX00 := goodIn_r _ [1201, 1202, 1203, 1204, 1205, 1206, 1207, 1208, 1209, 1210, 1211, 1212, 1213, 1214, 1215, 1216, 1217, 1218, 1219] (by decide +kernel) (by decide +kernel)
set_option maxRecDepth 20000 in
theorem ggL_law_L_floorByLog_c7 : GoodIn wsL_law wsX10 := goodIn_r _ [1199, 1200] (by decide +kernel) (by decide +kernel)
set_option maxRecDepth 20000 in
theorem ggL_law_L_floorByLog : GoodIn wsL_law wsL_floorByLog := goodIn_ca (goodIn_ca (tw_gc ggL_law_L_floorByLog_c0 (goodIn_app (goodIn_app (goodIn_app (goodIn_app (goodIn_app ggL_law_L_floorByLog_c1 (goodIn_app ggL_law_L_floorByLog_c2 ggL_law_L_floorByLog_c3)) ggL_law_L_floorByLog_c4) ggL_law_L_floorByLog_c5) ggL_law_L_floorByLog_c6) ggL_law_L_floorByLog_c7)) (goodIn_sub (fun _ h => List.mem_append_left _ (List.mem_append_left _ (List.mem_append_left _ (List.mem_append_left _ (List.mem_append_left _ (List.mem_append_left _ (List.mem_append_left _ (List.mem_append_right _ h)))))))) (by decide +kernel))) (goodIn_sub (fun _ h => List.mem_append_left _ (List.mem_append_left _ (List.mem_append_left _ (List.mem_append_right _ h)))) (by decide +kernel))
set_option maxRecDepth 20000 in
theorem gL_law_L_floorByLog : GoodIn wsL_law (va_wsS RL 165 yL_floorByLog wsL_floorByLog) := goodIn_app (goodIn_of _ (by decide +kernel)) ggL_law_L_floorByLog
theorem dL_law_917 : decode cL_law 917 = .ok (.invokestatic 165, 3) := by decide +kernel
theorem dL_law_920 : decode cL_law 920 = .ok (.istore 6, 2) := by decide +kernel
theorem dL_law_922 : decode cL_law 922 = .ok (.aload_n 2, 1) := by decide +kernel
theorem dL_law_923 : decode cL_law 923 = .ok (.aload_n 0, 1) := by decide +kernel
theorem dL_law_924 : decode cL_law 924 = .ok (.iload 5, 2) := by decide +kernel
theorem dL_law_926 : decode cL_law 926 = .ok (.iconst 1, 1) := by decide +kernel
theorem dL_law_927 : decode cL_law 927 = .ok (.iadd, 1) := by decide +kernel
theorem dL_law_928 : decode cL_law 928 = .ok (.iaload, 1) := by decide +kernel
set_option maxRecDepth 20000 in
theorem ggL_law_X6_floorByLog_c0 : GoodIn wsL_law [Cond.code yX6_floorByLog cX6_floorByLog 5 (some .int)] := goodIn_r _ [834] (by decide +kernel) (by decide +kernel)
set_option maxRecDepth 20000 in
theorem ggL_law_X6_floorByLog_c1 : GoodIn wsL_law wsX6_floorByLog_r1 := goodIn_r _ [54, 237, 58, 835, 381, 382, 383, 5, 384, 283, 125, 126, 16, 127, 78, 83, 84, 85, 86, 87, 88, 89, 90, 385] (by decide +kernel) (by decide +kernel)
set_option maxRecDepth 20000 in
theorem ggL_law_X6_floorByLog_c2 : GoodIn wsL_law wsX6_floorByLog_r2 := goodIn_r _ [129, 130, 131, 132, 133, 134, 135, 136, 137, 138, 139, 140, 141, 142, 143, 30, 245, 246, 247, 248, 249, 250, 251, 252] (by decide +kernel) (by decide +kernel)
set_option maxRecDepth 20000 in
theorem ggL_law_X6_floorByLog_c3 : GoodIn wsL_law wsX6_floorByLog_r3 := goodIn_r _ [253, 254, 255, 256, 12, 13, 257, 258, 186, 259, 260, 261, 262, 263, 264, 265, 266, 267, 268, 269, 270, 271, 272, 273] (by decide +kernel) (by decide +kernel)
set_option maxRecDepth 20000 in
theorem ggL_law_X6_floorByLog_c4 : GoodIn wsL_law wsX6_floorByLog_r4 := goodIn_r _ [92, 93, 94, 95] (by decide +kernel) (by decide +kernel)
set_option maxRecDepth 20000 in
theorem ggL_law_X6_floorByLog_c5 : GoodIn wsL_law wsX60 := goodIn_r _ [1184, 1185, 1186, 1187, 1188, 1189, 1190, 1191, 1192, 1193, 1194, 1195] (by decide +kernel) (by decide +kernel)
set_option maxRecDepth 20000 in
theorem ggL_law_X6_floorByLog_c6 : GoodIn wsL_law wsX40 := goodIn_r _ [1220, 1221, 1222, 1223, 1224, 1225, 1226, 1227, 1228, 1229, 1230, 1231, 1232, 1233] (by decide +kernel) (by decide +kernel)
set_option maxRecDepth 20000 in
theorem ggL_law_X6_floorByLog_c7 : GoodIn wsL_law wsJx4a65c0 := goodIn_r _ [1196, 1197, 1198] (by decide +kernel) (by decide +kernel)
set_option maxRecDepth 20000 in
theorem ggL_law_X6_floorByLog_c8 : GoodIn wsL_law wsJx354110 := goodIn_r _ [1234, 1235, 1236, 1237] (by decide +kernel) (by decide +kernel)
set_option maxRecDepth 20000 in
theorem ggL_law_X6_floorByLog : GoodIn wsL_law wsX6_floorByLog := goodIn_ca (tw_gc ggL_law_X6_floorByLog_c0 (goodIn_app (goodIn_app (goodIn_app (goodIn_app (goodIn_app ggL_law_X6_floorByLog_c1 (goodIn_app ggL_law_X6_floorByLog_c2 (goodIn_app ggL_law_X6_floorByLog_c3 ggL_law_X6_floorByLog_c4))) ggL_law_X6_floorByLog_c5) ggL_law_X6_floorByLog_c6) ggL_law_X6_floorByLog_c7) ggL_law_X6_floorByLog_c8)) (goodIn_sub (fun _ h => List.mem_append_left _ (List.mem_append_left _ (List.mem_append_left _ (List.mem_append_left _ (List.mem_append_left _ (List.mem_append_left _ (List.mem_append_left _ (List.mem_append_right _ h)))))))) (by decide +kernel))
set_option maxRecDepth 20000 in
theorem gL_law_X6_floorByLog : GoodIn wsL_law (wsV RL 167 RX6 yX6_floorByLog wsX6_floorByLog) := goodIn_app (goodIn_of _ (by decide +kernel)) ggL_law_X6_floorByLog
theorem dL_law_929 : decode cL_law 929 = .ok (.invokevirtual 167, 3) := by decide +kernel
theorem dL_law_932 : decode cL_law 932 = .ok (.istore 7, 2) := by decide +kernel
theorem dL_law_934 : decode cL_law 934 = .ok (.aload_n 2, 1) := by decide +kernel
theorem dL_law_935 : decode cL_law 935 = .ok (.invokevirtual 127, 3) := by decide +kernel
theorem dL_law_938 : decode cL_law 938 = .ok (.iload 6, 2) := by decide +kernel
theorem dL_law_940 : decode cL_law 940 = .ok (.if_icmp .eq 5, 3) := by decide +kernel
theorem dL_law_945 : decode cL_law 945 = .ok (.iload 6, 2) := by decide +kernel
theorem dL_law_947 : decode cL_law 947 = .ok (.ifCond .ne 15, 3) := by decide +kernel
theorem dL_law_962 : decode cL_law 962 = .ok (.goto 1094, 3) := by decide +kernel
set_option maxHeartbeats 4000000 in
set_option maxRecDepth 100000 in
theorem tw_case_10 {p : Program} {l : Launch} {e : Env} {s : State} {m : MethodId} {below : List Frame} {meth : Method} {c : Code} {b : Nat} {xs : Nat → Int32} (C0 : lw_At p s m meth c b 6 xs) (hst : l.stackTraces = false) {A : Nat → Prop} (hAe : A = fun q : Nat => s.heap.size ≤ q) (em kw kb : Nat) (D : va_G) (hF : tw_F em kw kb A s) (q_1 : Nat) (q_2 : Nat) (q_3 : Nat) (q_4 : Nat) (q_5 : Nat) (cA_6 : ClassId) (q_7 : Nat) (q_8 : Nat) (q_9 : Nat) (q_10 : Nat) (q_11 : Nat) (q_12 : Nat) (cA_13 : ClassId) (cA_14 : ClassId) (q_15 : Nat) (q_16 : Nat) (cA_17 : ClassId) (q_18 : Nat) (cA_19 : ClassId) (H : Heap) (locs : List Loc) (hK : va_K D vwCl [(cA_6, .int), (cA_13, .array (.object "TowerliftryModel$Car")), (cA_14, .object "TowerliftryModel$Car"), (cA_17, .long), (cA_19, .double)] s) (hP : va_P D vwCl [(q_1, .inr (7, [.ref q_2, .ref q_3, .ref q_4, .int 9, .int 99, .int 0, .int 0, .int 0, .int ((-1)), .int 0, .int 0, .long 0])), (q_2, .inr (3, [.int 0, .ref em, .int 0])), (q_3, .inr (3, [.int 0, .ref em, .int 0])), (q_4, .inr (5, [.ref q_5, .int 0])), (q_5, .inl (cA_6, 256, .inl ((fun _ => 0)))), (q_7, .inr (10, [.int 0, .int 9, .int 0, .int 99, .ref q_8, .ref q_9, .ref q_10, .int 0, .int 0, .int ((-1)), .ref q_15, .long 0])), (q_8, .inr (3, [.int 0, .ref em, .int 0])), (q_9, .inr (3, [.int 0, .ref em, .int 0])), (q_10, .inl (cA_13, 2, .inr (.inr (.inr (.inr ((tw_two q_11 q_12))))))), (q_11, .inl (cA_14, 24, .inr (.inr (.inr (.inr ((fun _ => none))))))), (q_12, .inl (cA_14, 24, .inr (.inr (.inr (.inr ((fun _ => none))))))), (q_15, .inr (3, [.int 0, .ref em, .int 0])), (q_16, .inl (cA_17, 1, .inr (.inl ((fun _ => 0))))), (q_18, .inl (cA_19, 1, .inr (.inr (.inr (.inl ((fun _ => 0)))))))] H) (hD : va_D A [(q_1, .inr (7, [.ref q_2, .ref q_3, .ref q_4, .int 9, .int 99, .int 0, .int 0, .int 0, .int ((-1)), .int 0, .int 0, .long 0])), (q_2, .inr (3, [.int 0, .ref em, .int 0])), (q_3, .inr (3, [.int 0, .ref em, .int 0])), (q_4, .inr (5, [.ref q_5, .int 0])), (q_5, .inl (cA_6, 256, .inl ((fun _ => 0)))), (q_7, .inr (10, [.int 0, .int 9, .int 0, .int 99, .ref q_8, .ref q_9, .ref q_10, .int 0, .int 0, .int ((-1)), .ref q_15, .long 0])), (q_8, .inr (3, [.int 0, .ref em, .int 0])), (q_9, .inr (3, [.int 0, .ref em, .int 0])), (q_10, .inl (cA_13, 2, .inr (.inr (.inr (.inr ((tw_two q_11 q_12))))))), (q_11, .inl (cA_14, 24, .inr (.inr (.inr (.inr ((fun _ => none))))))), (q_12, .inl (cA_14, 24, .inr (.inr (.inr (.inr ((fun _ => none))))))), (q_15, .inr (3, [.int 0, .ref em, .int 0])), (q_16, .inl (cA_17, 1, .inr (.inl ((fun _ => 0))))), (q_18, .inl (cA_19, 1, .inr (.inr (.inr (.inl ((fun _ => 0)))))))]) (hS : va_S A s.heap H locs) (ls : Array Slot) (hl : lv_has ls 9 [(5, .int 0), (4, .ref q_18), (3, .ref q_16), (2, .ref q_7), (1, .ref q_1), (0, .ref b)]) : W p l e room_1 s m #[Value.ref b] below meth c H locs 14 349 (lw_Z below #[Value.ref b] s) (F0 m 853 ls []) := by
  obtain ⟨hx, hb, hr, hml, hown, hts0, hX, hbl, hlocks, hgv⟩ := id C0
  have hown : s.vm.findClass RL = some m.cls := hown
  have hts : ∀ w ∈ wsL_law, w.before #[Value.ref b] s = true := fun w h => hts0 w (wsL_law_in w h)
  have hA : ∀ q : Nat, s.heap.size ≤ q → A q := fun q h => by rw [hAe]; exact h
  have hbA : ¬ A b := by rw [hAe]; exact Nat.not_le.mpr hbl
  refine lv_aload_n hx hb dL_law_853 rfl (lv_at hl 4 rfl) ?_
  refine lv_aload_n hx hb dL_law_854 rfl (lv_at hl 5 rfl) ?_
  refine lv_iload hx hb dL_law_855 (lv_at hl 0 rfl) ?_
  refine lv_iconst (v := 1) hx hb dL_law_857 (by decide) ?_
  refine lv_iadd hx hb dL_law_858 ?_
  refine lv_topi (fun z_1 ez_1 => ?_)
  have ez_1 : z_1 = (1 : Int32) := ez_1.trans (by decide)
  subst ez_1
  refine va_sld hx hb hX hbl hbA hS (by unfold vp_in; decide) dL_law_859 ?_
  rw [show (1 : Int32).toNatClampNeg = 1 from by decide]
  refine lv_aload_n hx hb dL_law_860 rfl (lv_at hl 2 rfl) ?_
  have hPc := hP.sub (ws' := [(q_1, .inr (7, [.ref q_2, .ref q_3, .ref q_4, .int 9, .int 99, .int 0, .int 0, .int 0, .int ((-1)), .int 0, .int 0, .long 0])), (q_2, .inr (3, [.int 0, .ref em, .int 0])), (q_16, .inl (cA_17, 1, .inr (.inl ((fun _ => 0)))))]) [0, 1, 12] rfl
  have hDc := hD.sub (ws' := [(q_1, .inr (7, [.ref q_2, .ref q_3, .ref q_4, .int 9, .int 99, .int 0, .int 0, .int 0, .int ((-1)), .int 0, .int 0, .long 0])), (q_2, .inr (3, [.int 0, .ref em, .int 0])), (q_16, .inl (cA_17, 1, .inr (.inl ((fun _ => 0)))))]) [0, 1, 12] (by decide) rfl
  have hKc := hK.sub (tys' := [(cA_17, .long)]) [3] rfl
  have hFc := va_free (wc := [(q_1, .inr (7, [.ref q_2, .ref q_3, .ref q_4, .int 9, .int 99, .int 0, .int 0, .int 0, .int ((-1)), .int 0, .int 0, .long 0])), (q_2, .inr (3, [.int 0, .ref em, .int 0])), (q_16, .inl (cA_17, 1, .inr (.inl ((fun _ => 0)))))]) hD hS hA [0, 1, 12] rfl
  refine va_calli (vx_runSW (As := [.ref q_1, .int ((xs 1)), .ref q_16]) (rest := []) ⟨hx, hb, hml, hown, hts⟩ (c_L_floorOf l hst em kw kb D q_1 ((xs 1)) q_16 q_2 q_3 q_4 cA_17 _) (vx_cwSW 3 hts gL_law_L_floorOf rfl rfl rfl (by decide +kernel) ⟨(Nat.le_of_ble_eq_true rfl), (Nat.le_of_ble_eq_true rfl)⟩) (tw_preS hF hS hFc hPc hKc hDc) rfl rfl hl.1 rfl (lv_room (Nat.le_of_ble_eq_true rfl)) dL_law_861 ⟨(Nat.le_of_ble_eq_true rfl), (Nat.le_of_ble_eq_true rfl)⟩) hS (fun q _ h => hFc q h) hFc (fun r u t H locs ht hvm hw hB hz1 hk1 hS => ?_)
  obtain ⟨rfl, rfl⟩ := hw
  obtain ⟨hP, hD, hK⟩ := tw_join (wr := [(q_3, .inr (3, [.int 0, .ref em, .int 0])), (q_4, .inr (5, [.ref q_5, .int 0])), (q_5, .inl (cA_6, 256, .inl ((fun _ => 0)))), (q_7, .inr (10, [.int 0, .int 9, .int 0, .int 99, .ref q_8, .ref q_9, .ref q_10, .int 0, .int 0, .int ((-1)), .ref q_15, .long 0])), (q_8, .inr (3, [.int 0, .ref em, .int 0])), (q_9, .inr (3, [.int 0, .ref em, .int 0])), (q_10, .inl (cA_13, 2, .inr (.inr (.inr (.inr ((tw_two q_11 q_12))))))), (q_11, .inl (cA_14, 24, .inr (.inr (.inr (.inr ((fun _ => none))))))), (q_12, .inl (cA_14, 24, .inr (.inr (.inr (.inr ((fun _ => none))))))), (q_15, .inr (3, [.int 0, .ref em, .int 0])), (q_18, .inl (cA_19, 1, .inr (.inr (.inr (.inl ((fun _ => 0)))))))]) hP hD hK [0, 1, 12] [2, 3, 4, 5, 6, 7, 8, 9, 10, 11, 13] rfl rfl (by decide) (by decide) hk1 hFc ht hvm hB
  have hP : va_P D vwCl [(q_3, .inr (3, [.int 0, .ref em, .int 0])), (q_4, .inr (5, [.ref q_5, .int 0])), (q_5, .inl (cA_6, 256, .inl ((fun _ => 0)))), (q_7, .inr (10, [.int 0, .int 9, .int 0, .int 99, .ref q_8, .ref q_9, .ref q_10, .int 0, .int 0, .int ((-1)), .ref q_15, .long 0])), (q_8, .inr (3, [.int 0, .ref em, .int 0])), (q_9, .inr (3, [.int 0, .ref em, .int 0])), (q_10, .inl (cA_13, 2, .inr (.inr (.inr (.inr ((tw_two q_11 q_12))))))), (q_11, .inl (cA_14, 24, .inr (.inr (.inr (.inr ((fun _ => none))))))), (q_12, .inl (cA_14, 24, .inr (.inr (.inr (.inr ((fun _ => none))))))), (q_15, .inr (3, [.int 0, .ref em, .int 0])), (q_18, .inl (cA_19, 1, .inr (.inr (.inr (.inl ((fun _ => 0))))))), (q_16, .inl (cA_17, 1, .inr (.inl ((fun _ => 0)))))] _ := hP
  have hD : va_D A [(q_3, .inr (3, [.int 0, .ref em, .int 0])), (q_4, .inr (5, [.ref q_5, .int 0])), (q_5, .inl (cA_6, 256, .inl ((fun _ => 0)))), (q_7, .inr (10, [.int 0, .int 9, .int 0, .int 99, .ref q_8, .ref q_9, .ref q_10, .int 0, .int 0, .int ((-1)), .ref q_15, .long 0])), (q_8, .inr (3, [.int 0, .ref em, .int 0])), (q_9, .inr (3, [.int 0, .ref em, .int 0])), (q_10, .inl (cA_13, 2, .inr (.inr (.inr (.inr ((tw_two q_11 q_12))))))), (q_11, .inl (cA_14, 24, .inr (.inr (.inr (.inr ((fun _ => none))))))), (q_12, .inl (cA_14, 24, .inr (.inr (.inr (.inr ((fun _ => none))))))), (q_15, .inr (3, [.int 0, .ref em, .int 0])), (q_18, .inl (cA_19, 1, .inr (.inr (.inr (.inl ((fun _ => 0))))))), (q_16, .inl (cA_17, 1, .inr (.inl ((fun _ => 0)))))] := hD
  have hK : va_K D vwCl [(cA_6, .int), (cA_13, .array (.object "TowerliftryModel$Car")), (cA_14, .object "TowerliftryModel$Car"), (cA_17, .long), (cA_19, .double)] s := hK
  refine W.widen (k := 15) (n := 355) (Nat.le_refl _) (Nat.le_refl _) ?_
  refine W.eq (g2 := F0 m 864 ls [.int 1]) rfl ?_
  refine lv_istore (lv' := [(6, .int 1), (5, .int 0), (4, .ref q_18), (3, .ref q_16), (2, .ref q_7), (1, .ref q_1), (0, .ref b)]) hx hb dL_law_864 hl (by decide) rfl (fun ls hl => ?_)
  refine lv_aload_n hx hb dL_law_866 rfl (lv_at hl 4 rfl) ?_
  refine lv_aload_n hx hb dL_law_867 rfl (lv_at hl 6 rfl) ?_
  refine lv_iload hx hb dL_law_868 (lv_at hl 1 rfl) ?_
  refine lv_iconst (v := 1) hx hb dL_law_870 (by decide) ?_
  refine lv_iadd hx hb dL_law_871 ?_
  refine lv_topi (fun z_2 ez_2 => ?_)
  have ez_2 : z_2 = (1 : Int32) := ez_2.trans (by decide)
  subst ez_2
  refine va_sld hx hb hX hbl hbA hS (by unfold vp_in; decide) dL_law_872 ?_
  rw [show (1 : Int32).toNatClampNeg = 1 from by decide]
  have hPc := hP.sub (ws' := [(q_7, .inr (10, [.int 0, .int 9, .int 0, .int 99, .ref q_8, .ref q_9, .ref q_10, .int 0, .int 0, .int ((-1)), .ref q_15, .long 0])), (q_8, .inr (3, [.int 0, .ref em, .int 0]))]) [3, 4] rfl
  have hDc := hD.sub (ws' := [(q_7, .inr (10, [.int 0, .int 9, .int 0, .int 99, .ref q_8, .ref q_9, .ref q_10, .int 0, .int 0, .int ((-1)), .ref q_15, .long 0])), (q_8, .inr (3, [.int 0, .ref em, .int 0]))]) [3, 4] (by decide) rfl
  have hKc := hK.sub (tys' := []) [] rfl
  have hFc := va_free (wc := [(q_7, .inr (10, [.int 0, .int 9, .int 0, .int 99, .ref q_8, .ref q_9, .ref q_10, .int 0, .int 0, .int ((-1)), .ref q_15, .long 0])), (q_8, .inr (3, [.int 0, .ref em, .int 0]))]) hD hS hA [3, 4] rfl
  refine va_calli (va_runV (As := [.int ((xs 1))]) (rest := []) ⟨hx, hb, hml, hown, hts⟩ (c_X6_floorOf l hst em kw kb D q_7 ((xs 1)) q_8 q_9 q_10 q_15 _) (cwV 1 hts gL_law_X6_floorOf rfl rfl rfl (by decide +kernel) ⟨(Nat.le_of_ble_eq_true rfl), (Nat.le_of_ble_eq_true rfl)⟩) (tw_preV hF hS hFc hPc hKc hDc (va_recv hKc hPc (ci := 10) (q0 := 0) rfl rfl)) rfl rfl hl.1 rfl (lv_room (Nat.le_of_ble_eq_true rfl)) dL_law_873 ⟨(Nat.le_of_ble_eq_true rfl), (Nat.le_of_ble_eq_true rfl)⟩) hS (fun q _ h => hFc q h) hFc (fun r u t H locs ht hvm hw hB hz1 hk1 hS => ?_)
  obtain ⟨rfl, rfl⟩ := hw
  obtain ⟨hP, hD, hK⟩ := tw_join (wr := [(q_3, .inr (3, [.int 0, .ref em, .int 0])), (q_4, .inr (5, [.ref q_5, .int 0])), (q_5, .inl (cA_6, 256, .inl ((fun _ => 0)))), (q_9, .inr (3, [.int 0, .ref em, .int 0])), (q_10, .inl (cA_13, 2, .inr (.inr (.inr (.inr ((tw_two q_11 q_12))))))), (q_11, .inl (cA_14, 24, .inr (.inr (.inr (.inr ((fun _ => none))))))), (q_12, .inl (cA_14, 24, .inr (.inr (.inr (.inr ((fun _ => none))))))), (q_15, .inr (3, [.int 0, .ref em, .int 0])), (q_18, .inl (cA_19, 1, .inr (.inr (.inr (.inl ((fun _ => 0))))))), (q_16, .inl (cA_17, 1, .inr (.inl ((fun _ => 0)))))]) hP hD hK [3, 4] [0, 1, 2, 5, 6, 7, 8, 9, 10, 11] rfl rfl (by decide) (by decide) hk1 hFc ht hvm hB
  have hP : va_P D vwCl [(q_3, .inr (3, [.int 0, .ref em, .int 0])), (q_4, .inr (5, [.ref q_5, .int 0])), (q_5, .inl (cA_6, 256, .inl ((fun _ => 0)))), (q_9, .inr (3, [.int 0, .ref em, .int 0])), (q_10, .inl (cA_13, 2, .inr (.inr (.inr (.inr ((tw_two q_11 q_12))))))), (q_11, .inl (cA_14, 24, .inr (.inr (.inr (.inr ((fun _ => none))))))), (q_12, .inl (cA_14, 24, .inr (.inr (.inr (.inr ((fun _ => none))))))), (q_15, .inr (3, [.int 0, .ref em, .int 0])), (q_18, .inl (cA_19, 1, .inr (.inr (.inr (.inl ((fun _ => 0))))))), (q_16, .inl (cA_17, 1, .inr (.inl ((fun _ => 0))))), (q_7, .inr (10, [.int 1, .int 9, .int 0, .int 99, .ref q_8, .ref q_9, .ref q_10, .int 0, .int 0, .int ((-1)), .ref q_15, .long 0]))] _ := hP
  have hD : va_D A [(q_3, .inr (3, [.int 0, .ref em, .int 0])), (q_4, .inr (5, [.ref q_5, .int 0])), (q_5, .inl (cA_6, 256, .inl ((fun _ => 0)))), (q_9, .inr (3, [.int 0, .ref em, .int 0])), (q_10, .inl (cA_13, 2, .inr (.inr (.inr (.inr ((tw_two q_11 q_12))))))), (q_11, .inl (cA_14, 24, .inr (.inr (.inr (.inr ((fun _ => none))))))), (q_12, .inl (cA_14, 24, .inr (.inr (.inr (.inr ((fun _ => none))))))), (q_15, .inr (3, [.int 0, .ref em, .int 0])), (q_18, .inl (cA_19, 1, .inr (.inr (.inr (.inl ((fun _ => 0))))))), (q_16, .inl (cA_17, 1, .inr (.inl ((fun _ => 0))))), (q_7, .inr (10, [.int 1, .int 9, .int 0, .int 99, .ref q_8, .ref q_9, .ref q_10, .int 0, .int 0, .int ((-1)), .ref q_15, .long 0]))] := hD
  have hK : va_K D vwCl [(cA_6, .int), (cA_13, .array (.object "TowerliftryModel$Car")), (cA_14, .object "TowerliftryModel$Car"), (cA_17, .long), (cA_19, .double)] s := hK
  refine W.widen (k := 15) (n := 355) (Nat.le_refl _) (Nat.le_refl _) ?_
  refine W.eq (g2 := F0 m 876 ls [.int 0]) rfl ?_
  refine lv_istore (lv' := [(7, .int 0), (6, .int 1), (5, .int 0), (4, .ref q_18), (3, .ref q_16), (2, .ref q_7), (1, .ref q_1), (0, .ref b)]) hx hb dL_law_876 hl (by decide) rfl (fun ls hl => ?_)
  refine lv_aload_n hx hb dL_law_878 rfl (lv_at hl 5 rfl) ?_
  have hPc := hP.sub (ws' := [(q_7, .inr (10, [.int 1, .int 9, .int 0, .int 99, .ref q_8, .ref q_9, .ref q_10, .int 0, .int 0, .int ((-1)), .ref q_15, .long 0]))]) [10] rfl
  have hDc := hD.sub (ws' := [(q_7, .inr (10, [.int 1, .int 9, .int 0, .int 99, .ref q_8, .ref q_9, .ref q_10, .int 0, .int 0, .int ((-1)), .ref q_15, .long 0]))]) [10] (by decide) rfl
  have hKc := hK.sub (tys' := []) [] rfl
  have hFc := va_free (wc := [(q_7, .inr (10, [.int 1, .int 9, .int 0, .int 99, .ref q_8, .ref q_9, .ref q_10, .int 0, .int 0, .int ((-1)), .ref q_15, .long 0]))]) hD hS hA [10] rfl
  refine va_calli (va_runV (As := []) (rest := []) ⟨hx, hb, hml, hown, hts⟩ (c_X6_thrown l hst em kw kb D q_7 1 9 0 99 q_8 q_9 q_10 0 0 ((-1)) q_15 0 _) (cwV 0 hts gL_law_X6_thrown rfl rfl rfl (by decide +kernel) ⟨(Nat.le_of_ble_eq_true rfl), (Nat.le_of_ble_eq_true rfl)⟩) (tw_preV hF hS hFc hPc hKc hDc (va_recv hKc hPc (ci := 10) (q0 := 0) rfl rfl)) rfl rfl hl.1 rfl (lv_room (Nat.le_of_ble_eq_true rfl)) dL_law_879 ⟨(Nat.le_of_ble_eq_true rfl), (Nat.le_of_ble_eq_true rfl)⟩) hS (fun q _ h => hFc q h) hFc (fun r u t H locs ht hvm hw hB hz1 hk1 hS => ?_)
  obtain ⟨rfl, rfl⟩ := hw
  obtain ⟨hP, hD, hK⟩ := tw_join (wr := [(q_3, .inr (3, [.int 0, .ref em, .int 0])), (q_4, .inr (5, [.ref q_5, .int 0])), (q_5, .inl (cA_6, 256, .inl ((fun _ => 0)))), (q_9, .inr (3, [.int 0, .ref em, .int 0])), (q_10, .inl (cA_13, 2, .inr (.inr (.inr (.inr ((tw_two q_11 q_12))))))), (q_11, .inl (cA_14, 24, .inr (.inr (.inr (.inr ((fun _ => none))))))), (q_12, .inl (cA_14, 24, .inr (.inr (.inr (.inr ((fun _ => none))))))), (q_15, .inr (3, [.int 0, .ref em, .int 0])), (q_18, .inl (cA_19, 1, .inr (.inr (.inr (.inl ((fun _ => 0))))))), (q_16, .inl (cA_17, 1, .inr (.inl ((fun _ => 0)))))]) hP hD hK [10] [0, 1, 2, 3, 4, 5, 6, 7, 8, 9] rfl rfl (by decide) (by decide) hk1 hFc ht hvm hB
  have hP : va_P D vwCl [(q_3, .inr (3, [.int 0, .ref em, .int 0])), (q_4, .inr (5, [.ref q_5, .int 0])), (q_5, .inl (cA_6, 256, .inl ((fun _ => 0)))), (q_9, .inr (3, [.int 0, .ref em, .int 0])), (q_10, .inl (cA_13, 2, .inr (.inr (.inr (.inr ((tw_two q_11 q_12))))))), (q_11, .inl (cA_14, 24, .inr (.inr (.inr (.inr ((fun _ => none))))))), (q_12, .inl (cA_14, 24, .inr (.inr (.inr (.inr ((fun _ => none))))))), (q_15, .inr (3, [.int 0, .ref em, .int 0])), (q_18, .inl (cA_19, 1, .inr (.inr (.inr (.inl ((fun _ => 0))))))), (q_16, .inl (cA_17, 1, .inr (.inl ((fun _ => 0))))), (q_7, .inr (10, [.int 1, .int 9, .int 0, .int 99, .ref q_8, .ref q_9, .ref q_10, .int 0, .int 0, .int ((-1)), .ref q_15, .long 0]))] _ := hP
  have hD : va_D A [(q_3, .inr (3, [.int 0, .ref em, .int 0])), (q_4, .inr (5, [.ref q_5, .int 0])), (q_5, .inl (cA_6, 256, .inl ((fun _ => 0)))), (q_9, .inr (3, [.int 0, .ref em, .int 0])), (q_10, .inl (cA_13, 2, .inr (.inr (.inr (.inr ((tw_two q_11 q_12))))))), (q_11, .inl (cA_14, 24, .inr (.inr (.inr (.inr ((fun _ => none))))))), (q_12, .inl (cA_14, 24, .inr (.inr (.inr (.inr ((fun _ => none))))))), (q_15, .inr (3, [.int 0, .ref em, .int 0])), (q_18, .inl (cA_19, 1, .inr (.inr (.inr (.inl ((fun _ => 0))))))), (q_16, .inl (cA_17, 1, .inr (.inl ((fun _ => 0))))), (q_7, .inr (10, [.int 1, .int 9, .int 0, .int 99, .ref q_8, .ref q_9, .ref q_10, .int 0, .int 0, .int ((-1)), .ref q_15, .long 0]))] := hD
  have hK : va_K D vwCl [(cA_6, .int), (cA_13, .array (.object "TowerliftryModel$Car")), (cA_14, .object "TowerliftryModel$Car"), (cA_17, .long), (cA_19, .double)] s := hK
  refine W.widen (k := 15) (n := 355) (Nat.le_refl _) (Nat.le_refl _) ?_
  refine W.eq (g2 := F0 m 882 ls [.int 1]) rfl ?_
  refine lv_iload hx hb dL_law_882 (lv_at hl 1 rfl) ?_
  refine lv_icmp_eq (tgt := 889) hx hb dL_law_884 (by decide) (fun c9 => ?_) (fun c9 => absurd c9 (by decide))
  refine lv_iload hx hb dL_law_889 (lv_at hl 1 rfl) ?_
  refine lv_if_ne (tgt := 906) hx hb dL_law_891 (by decide) (fun c9 => ?_) (fun c9 => absurd c9 (by decide))
  refine lv_goto (tgt := 2056) hx hb dL_law_906 (by decide) ?_
  refine W.widen (k := 20000) (n := 60000) (Nat.le_of_ble_eq_true rfl) (Nat.le_of_ble_eq_true rfl) ?_
  exact tw_tail C0 hAe hS (lv_sub hl [2, 7] rfl)
set_option maxHeartbeats 4000000 in
set_option maxRecDepth 100000 in
theorem tw_case_11 {p : Program} {l : Launch} {e : Env} {s : State} {m : MethodId} {below : List Frame} {meth : Method} {c : Code} {b : Nat} {xs : Nat → Int32} (C0 : lw_At p s m meth c b 6 xs) (hst : l.stackTraces = false) {A : Nat → Prop} (hAe : A = fun q : Nat => s.heap.size ≤ q) (em kw kb : Nat) (D : va_G) (hF : tw_F em kw kb A s) (q_1 : Nat) (q_2 : Nat) (q_3 : Nat) (q_4 : Nat) (q_5 : Nat) (cA_6 : ClassId) (q_7 : Nat) (q_8 : Nat) (q_9 : Nat) (q_10 : Nat) (q_11 : Nat) (q_12 : Nat) (cA_13 : ClassId) (cA_14 : ClassId) (q_15 : Nat) (q_16 : Nat) (cA_17 : ClassId) (q_18 : Nat) (cA_19 : ClassId) (H : Heap) (locs : List Loc) (hK : va_K D vwCl [(cA_6, .int), (cA_13, .array (.object "TowerliftryModel$Car")), (cA_14, .object "TowerliftryModel$Car"), (cA_17, .long), (cA_19, .double)] s) (hP : va_P D vwCl [(q_1, .inr (7, [.ref q_2, .ref q_3, .ref q_4, .int 9, .int 99, .int 0, .int 0, .int 0, .int ((-1)), .int 0, .int 0, .long 0])), (q_2, .inr (3, [.int 0, .ref em, .int 0])), (q_3, .inr (3, [.int 0, .ref em, .int 0])), (q_4, .inr (5, [.ref q_5, .int 0])), (q_5, .inl (cA_6, 256, .inl ((fun _ => 0)))), (q_7, .inr (10, [.int 0, .int 9, .int 0, .int 99, .ref q_8, .ref q_9, .ref q_10, .int 0, .int 0, .int ((-1)), .ref q_15, .long 0])), (q_8, .inr (3, [.int 0, .ref em, .int 0])), (q_9, .inr (3, [.int 0, .ref em, .int 0])), (q_10, .inl (cA_13, 2, .inr (.inr (.inr (.inr ((tw_two q_11 q_12))))))), (q_11, .inl (cA_14, 24, .inr (.inr (.inr (.inr ((fun _ => none))))))), (q_12, .inl (cA_14, 24, .inr (.inr (.inr (.inr ((fun _ => none))))))), (q_15, .inr (3, [.int 0, .ref em, .int 0])), (q_16, .inl (cA_17, 1, .inr (.inl ((fun _ => 0))))), (q_18, .inl (cA_19, 1, .inr (.inr (.inr (.inl ((fun _ => 0)))))))] H) (hD : va_D A [(q_1, .inr (7, [.ref q_2, .ref q_3, .ref q_4, .int 9, .int 99, .int 0, .int 0, .int 0, .int ((-1)), .int 0, .int 0, .long 0])), (q_2, .inr (3, [.int 0, .ref em, .int 0])), (q_3, .inr (3, [.int 0, .ref em, .int 0])), (q_4, .inr (5, [.ref q_5, .int 0])), (q_5, .inl (cA_6, 256, .inl ((fun _ => 0)))), (q_7, .inr (10, [.int 0, .int 9, .int 0, .int 99, .ref q_8, .ref q_9, .ref q_10, .int 0, .int 0, .int ((-1)), .ref q_15, .long 0])), (q_8, .inr (3, [.int 0, .ref em, .int 0])), (q_9, .inr (3, [.int 0, .ref em, .int 0])), (q_10, .inl (cA_13, 2, .inr (.inr (.inr (.inr ((tw_two q_11 q_12))))))), (q_11, .inl (cA_14, 24, .inr (.inr (.inr (.inr ((fun _ => none))))))), (q_12, .inl (cA_14, 24, .inr (.inr (.inr (.inr ((fun _ => none))))))), (q_15, .inr (3, [.int 0, .ref em, .int 0])), (q_16, .inl (cA_17, 1, .inr (.inl ((fun _ => 0))))), (q_18, .inl (cA_19, 1, .inr (.inr (.inr (.inl ((fun _ => 0)))))))]) (hS : va_S A s.heap H locs) (ls : Array Slot) (hl : lv_has ls 9 [(5, .int 0), (4, .ref q_18), (3, .ref q_16), (2, .ref q_7), (1, .ref q_1), (0, .ref b)]) : W p l e room_1 s m #[Value.ref b] below meth c H locs 14 349 (lw_Z below #[Value.ref b] s) (F0 m 909 ls []) := by
  obtain ⟨hx, hb, hr, hml, hown, hts0, hX, hbl, hlocks, hgv⟩ := id C0
  have hown : s.vm.findClass RL = some m.cls := hown
  have hts : ∀ w ∈ wsL_law, w.before #[Value.ref b] s = true := fun w h => hts0 w (wsL_law_in w h)
  have hA : ∀ q : Nat, s.heap.size ≤ q → A q := fun q h => by rw [hAe]; exact h
  have hbA : ¬ A b := by rw [hAe]; exact Nat.not_le.mpr hbl
  refine lv_aload_n hx hb dL_law_909 rfl (lv_at hl 4 rfl) ?_
  refine lv_aload_n hx hb dL_law_910 rfl (lv_at hl 5 rfl) ?_
  refine lv_iload hx hb dL_law_911 (lv_at hl 0 rfl) ?_
  refine lv_iconst (v := 1) hx hb dL_law_913 (by decide) ?_
  refine lv_iadd hx hb dL_law_914 ?_
  refine lv_topi (fun z_1 ez_1 => ?_)
  have ez_1 : z_1 = (1 : Int32) := ez_1.trans (by decide)
  subst ez_1
  refine va_sld hx hb hX hbl hbA hS (by unfold vp_in; decide) dL_law_915 ?_
  rw [show (1 : Int32).toNatClampNeg = 1 from by decide]
  refine lv_aload_n hx hb dL_law_916 rfl (lv_at hl 2 rfl) ?_
  have hPc := hP.sub (ws' := [(q_1, .inr (7, [.ref q_2, .ref q_3, .ref q_4, .int 9, .int 99, .int 0, .int 0, .int 0, .int ((-1)), .int 0, .int 0, .long 0])), (q_2, .inr (3, [.int 0, .ref em, .int 0])), (q_16, .inl (cA_17, 1, .inr (.inl ((fun _ => 0)))))]) [0, 1, 12] rfl
  have hDc := hD.sub (ws' := [(q_1, .inr (7, [.ref q_2, .ref q_3, .ref q_4, .int 9, .int 99, .int 0, .int 0, .int 0, .int ((-1)), .int 0, .int 0, .long 0])), (q_2, .inr (3, [.int 0, .ref em, .int 0])), (q_16, .inl (cA_17, 1, .inr (.inl ((fun _ => 0)))))]) [0, 1, 12] (by decide) rfl
  have hKc := hK.sub (tys' := [(cA_17, .long)]) [3] rfl
  have hFc := va_free (wc := [(q_1, .inr (7, [.ref q_2, .ref q_3, .ref q_4, .int 9, .int 99, .int 0, .int 0, .int 0, .int ((-1)), .int 0, .int 0, .long 0])), (q_2, .inr (3, [.int 0, .ref em, .int 0])), (q_16, .inl (cA_17, 1, .inr (.inl ((fun _ => 0)))))]) hD hS hA [0, 1, 12] rfl
  refine va_calli (vx_runSW (As := [.ref q_1, .int ((xs 1)), .ref q_16]) (rest := []) ⟨hx, hb, hml, hown, hts⟩ (c_L_floorByLog l hst em kw kb D q_1 ((xs 1)) q_16 q_2 q_3 q_4 cA_17 _) (vx_cwSW 3 hts gL_law_L_floorByLog rfl rfl rfl (by decide +kernel) ⟨(Nat.le_of_ble_eq_true rfl), (Nat.le_of_ble_eq_true rfl)⟩) (tw_preS hF hS hFc hPc hKc hDc) rfl rfl hl.1 rfl (lv_room (Nat.le_of_ble_eq_true rfl)) dL_law_917 ⟨(Nat.le_of_ble_eq_true rfl), (Nat.le_of_ble_eq_true rfl)⟩) hS (fun q _ h => hFc q h) hFc (fun r u t H locs ht hvm hw hB hz1 hk1 hS => ?_)
  obtain ⟨rfl, rfl⟩ := hw
  obtain ⟨hP, hD, hK⟩ := tw_join (wr := [(q_3, .inr (3, [.int 0, .ref em, .int 0])), (q_4, .inr (5, [.ref q_5, .int 0])), (q_5, .inl (cA_6, 256, .inl ((fun _ => 0)))), (q_7, .inr (10, [.int 0, .int 9, .int 0, .int 99, .ref q_8, .ref q_9, .ref q_10, .int 0, .int 0, .int ((-1)), .ref q_15, .long 0])), (q_8, .inr (3, [.int 0, .ref em, .int 0])), (q_9, .inr (3, [.int 0, .ref em, .int 0])), (q_10, .inl (cA_13, 2, .inr (.inr (.inr (.inr ((tw_two q_11 q_12))))))), (q_11, .inl (cA_14, 24, .inr (.inr (.inr (.inr ((fun _ => none))))))), (q_12, .inl (cA_14, 24, .inr (.inr (.inr (.inr ((fun _ => none))))))), (q_15, .inr (3, [.int 0, .ref em, .int 0])), (q_18, .inl (cA_19, 1, .inr (.inr (.inr (.inl ((fun _ => 0)))))))]) hP hD hK [0, 1, 12] [2, 3, 4, 5, 6, 7, 8, 9, 10, 11, 13] rfl rfl (by decide) (by decide) hk1 hFc ht hvm hB
  have hP : va_P D vwCl [(q_3, .inr (3, [.int 0, .ref em, .int 0])), (q_4, .inr (5, [.ref q_5, .int 0])), (q_5, .inl (cA_6, 256, .inl ((fun _ => 0)))), (q_7, .inr (10, [.int 0, .int 9, .int 0, .int 99, .ref q_8, .ref q_9, .ref q_10, .int 0, .int 0, .int ((-1)), .ref q_15, .long 0])), (q_8, .inr (3, [.int 0, .ref em, .int 0])), (q_9, .inr (3, [.int 0, .ref em, .int 0])), (q_10, .inl (cA_13, 2, .inr (.inr (.inr (.inr ((tw_two q_11 q_12))))))), (q_11, .inl (cA_14, 24, .inr (.inr (.inr (.inr ((fun _ => none))))))), (q_12, .inl (cA_14, 24, .inr (.inr (.inr (.inr ((fun _ => none))))))), (q_15, .inr (3, [.int 0, .ref em, .int 0])), (q_18, .inl (cA_19, 1, .inr (.inr (.inr (.inl ((fun _ => 0))))))), (q_16, .inl (cA_17, 1, .inr (.inl ((fun _ => 0)))))] _ := hP
  have hD : va_D A [(q_3, .inr (3, [.int 0, .ref em, .int 0])), (q_4, .inr (5, [.ref q_5, .int 0])), (q_5, .inl (cA_6, 256, .inl ((fun _ => 0)))), (q_7, .inr (10, [.int 0, .int 9, .int 0, .int 99, .ref q_8, .ref q_9, .ref q_10, .int 0, .int 0, .int ((-1)), .ref q_15, .long 0])), (q_8, .inr (3, [.int 0, .ref em, .int 0])), (q_9, .inr (3, [.int 0, .ref em, .int 0])), (q_10, .inl (cA_13, 2, .inr (.inr (.inr (.inr ((tw_two q_11 q_12))))))), (q_11, .inl (cA_14, 24, .inr (.inr (.inr (.inr ((fun _ => none))))))), (q_12, .inl (cA_14, 24, .inr (.inr (.inr (.inr ((fun _ => none))))))), (q_15, .inr (3, [.int 0, .ref em, .int 0])), (q_18, .inl (cA_19, 1, .inr (.inr (.inr (.inl ((fun _ => 0))))))), (q_16, .inl (cA_17, 1, .inr (.inl ((fun _ => 0)))))] := hD
  have hK : va_K D vwCl [(cA_6, .int), (cA_13, .array (.object "TowerliftryModel$Car")), (cA_14, .object "TowerliftryModel$Car"), (cA_17, .long), (cA_19, .double)] s := hK
  refine W.widen (k := 15) (n := 355) (Nat.le_refl _) (Nat.le_refl _) ?_
  refine W.eq (g2 := F0 m 920 ls [.int 1]) rfl ?_
  refine lv_istore (lv' := [(6, .int 1), (5, .int 0), (4, .ref q_18), (3, .ref q_16), (2, .ref q_7), (1, .ref q_1), (0, .ref b)]) hx hb dL_law_920 hl (by decide) rfl (fun ls hl => ?_)
  refine lv_aload_n hx hb dL_law_922 rfl (lv_at hl 4 rfl) ?_
  refine lv_aload_n hx hb dL_law_923 rfl (lv_at hl 6 rfl) ?_
  refine lv_iload hx hb dL_law_924 (lv_at hl 1 rfl) ?_
  refine lv_iconst (v := 1) hx hb dL_law_926 (by decide) ?_
  refine lv_iadd hx hb dL_law_927 ?_
  refine lv_topi (fun z_2 ez_2 => ?_)
  have ez_2 : z_2 = (1 : Int32) := ez_2.trans (by decide)
  subst ez_2
  refine va_sld hx hb hX hbl hbA hS (by unfold vp_in; decide) dL_law_928 ?_
  rw [show (1 : Int32).toNatClampNeg = 1 from by decide]
  have hPc := hP.sub (ws' := [(q_7, .inr (10, [.int 0, .int 9, .int 0, .int 99, .ref q_8, .ref q_9, .ref q_10, .int 0, .int 0, .int ((-1)), .ref q_15, .long 0])), (q_8, .inr (3, [.int 0, .ref em, .int 0]))]) [3, 4] rfl
  have hDc := hD.sub (ws' := [(q_7, .inr (10, [.int 0, .int 9, .int 0, .int 99, .ref q_8, .ref q_9, .ref q_10, .int 0, .int 0, .int ((-1)), .ref q_15, .long 0])), (q_8, .inr (3, [.int 0, .ref em, .int 0]))]) [3, 4] (by decide) rfl
  have hKc := hK.sub (tys' := []) [] rfl
  have hFc := va_free (wc := [(q_7, .inr (10, [.int 0, .int 9, .int 0, .int 99, .ref q_8, .ref q_9, .ref q_10, .int 0, .int 0, .int ((-1)), .ref q_15, .long 0])), (q_8, .inr (3, [.int 0, .ref em, .int 0]))]) hD hS hA [3, 4] rfl
  refine va_calli (va_runV (As := [.int ((xs 1))]) (rest := []) ⟨hx, hb, hml, hown, hts⟩ (c_X6_floorByLog l hst em kw kb D q_7 ((xs 1)) q_8 q_9 q_10 q_15 _) (cwV 1 hts gL_law_X6_floorByLog rfl rfl rfl (by decide +kernel) ⟨(Nat.le_of_ble_eq_true rfl), (Nat.le_of_ble_eq_true rfl)⟩) (tw_preV hF hS hFc hPc hKc hDc (va_recv hKc hPc (ci := 10) (q0 := 0) rfl rfl)) rfl rfl hl.1 rfl (lv_room (Nat.le_of_ble_eq_true rfl)) dL_law_929 ⟨(Nat.le_of_ble_eq_true rfl), (Nat.le_of_ble_eq_true rfl)⟩) hS (fun q _ h => hFc q h) hFc (fun r u t H locs ht hvm hw hB hz1 hk1 hS => ?_)
  obtain ⟨rfl, rfl⟩ := hw
  obtain ⟨hP, hD, hK⟩ := tw_join (wr := [(q_3, .inr (3, [.int 0, .ref em, .int 0])), (q_4, .inr (5, [.ref q_5, .int 0])), (q_5, .inl (cA_6, 256, .inl ((fun _ => 0)))), (q_9, .inr (3, [.int 0, .ref em, .int 0])), (q_10, .inl (cA_13, 2, .inr (.inr (.inr (.inr ((tw_two q_11 q_12))))))), (q_11, .inl (cA_14, 24, .inr (.inr (.inr (.inr ((fun _ => none))))))), (q_12, .inl (cA_14, 24, .inr (.inr (.inr (.inr ((fun _ => none))))))), (q_15, .inr (3, [.int 0, .ref em, .int 0])), (q_18, .inl (cA_19, 1, .inr (.inr (.inr (.inl ((fun _ => 0))))))), (q_16, .inl (cA_17, 1, .inr (.inl ((fun _ => 0)))))]) hP hD hK [3, 4] [0, 1, 2, 5, 6, 7, 8, 9, 10, 11] rfl rfl (by decide) (by decide) hk1 hFc ht hvm hB
  have hP : va_P D vwCl [(q_3, .inr (3, [.int 0, .ref em, .int 0])), (q_4, .inr (5, [.ref q_5, .int 0])), (q_5, .inl (cA_6, 256, .inl ((fun _ => 0)))), (q_9, .inr (3, [.int 0, .ref em, .int 0])), (q_10, .inl (cA_13, 2, .inr (.inr (.inr (.inr ((tw_two q_11 q_12))))))), (q_11, .inl (cA_14, 24, .inr (.inr (.inr (.inr ((fun _ => none))))))), (q_12, .inl (cA_14, 24, .inr (.inr (.inr (.inr ((fun _ => none))))))), (q_15, .inr (3, [.int 0, .ref em, .int 0])), (q_18, .inl (cA_19, 1, .inr (.inr (.inr (.inl ((fun _ => 0))))))), (q_16, .inl (cA_17, 1, .inr (.inl ((fun _ => 0))))), (q_7, .inr (10, [.int 1, .int 9, .int 0, .int 99, .ref q_8, .ref q_9, .ref q_10, .int 0, .int 0, .int ((-1)), .ref q_15, .long 0]))] _ := hP
  have hD : va_D A [(q_3, .inr (3, [.int 0, .ref em, .int 0])), (q_4, .inr (5, [.ref q_5, .int 0])), (q_5, .inl (cA_6, 256, .inl ((fun _ => 0)))), (q_9, .inr (3, [.int 0, .ref em, .int 0])), (q_10, .inl (cA_13, 2, .inr (.inr (.inr (.inr ((tw_two q_11 q_12))))))), (q_11, .inl (cA_14, 24, .inr (.inr (.inr (.inr ((fun _ => none))))))), (q_12, .inl (cA_14, 24, .inr (.inr (.inr (.inr ((fun _ => none))))))), (q_15, .inr (3, [.int 0, .ref em, .int 0])), (q_18, .inl (cA_19, 1, .inr (.inr (.inr (.inl ((fun _ => 0))))))), (q_16, .inl (cA_17, 1, .inr (.inl ((fun _ => 0))))), (q_7, .inr (10, [.int 1, .int 9, .int 0, .int 99, .ref q_8, .ref q_9, .ref q_10, .int 0, .int 0, .int ((-1)), .ref q_15, .long 0]))] := hD
  have hK : va_K D vwCl [(cA_6, .int), (cA_13, .array (.object "TowerliftryModel$Car")), (cA_14, .object "TowerliftryModel$Car"), (cA_17, .long), (cA_19, .double)] s := hK
  refine W.widen (k := 15) (n := 355) (Nat.le_refl _) (Nat.le_refl _) ?_
  refine W.eq (g2 := F0 m 932 ls [.int 0]) rfl ?_
  refine lv_istore (lv' := [(7, .int 0), (6, .int 1), (5, .int 0), (4, .ref q_18), (3, .ref q_16), (2, .ref q_7), (1, .ref q_1), (0, .ref b)]) hx hb dL_law_932 hl (by decide) rfl (fun ls hl => ?_)
  refine lv_aload_n hx hb dL_law_934 rfl (lv_at hl 5 rfl) ?_
  have hPc := hP.sub (ws' := [(q_7, .inr (10, [.int 1, .int 9, .int 0, .int 99, .ref q_8, .ref q_9, .ref q_10, .int 0, .int 0, .int ((-1)), .ref q_15, .long 0]))]) [10] rfl
  have hDc := hD.sub (ws' := [(q_7, .inr (10, [.int 1, .int 9, .int 0, .int 99, .ref q_8, .ref q_9, .ref q_10, .int 0, .int 0, .int ((-1)), .ref q_15, .long 0]))]) [10] (by decide) rfl
  have hKc := hK.sub (tys' := []) [] rfl
  have hFc := va_free (wc := [(q_7, .inr (10, [.int 1, .int 9, .int 0, .int 99, .ref q_8, .ref q_9, .ref q_10, .int 0, .int 0, .int ((-1)), .ref q_15, .long 0]))]) hD hS hA [10] rfl
  refine va_calli (va_runV (As := []) (rest := []) ⟨hx, hb, hml, hown, hts⟩ (c_X6_thrown l hst em kw kb D q_7 1 9 0 99 q_8 q_9 q_10 0 0 ((-1)) q_15 0 _) (cwV 0 hts gL_law_X6_thrown rfl rfl rfl (by decide +kernel) ⟨(Nat.le_of_ble_eq_true rfl), (Nat.le_of_ble_eq_true rfl)⟩) (tw_preV hF hS hFc hPc hKc hDc (va_recv hKc hPc (ci := 10) (q0 := 0) rfl rfl)) rfl rfl hl.1 rfl (lv_room (Nat.le_of_ble_eq_true rfl)) dL_law_935 ⟨(Nat.le_of_ble_eq_true rfl), (Nat.le_of_ble_eq_true rfl)⟩) hS (fun q _ h => hFc q h) hFc (fun r u t H locs ht hvm hw hB hz1 hk1 hS => ?_)
  obtain ⟨rfl, rfl⟩ := hw
  obtain ⟨hP, hD, hK⟩ := tw_join (wr := [(q_3, .inr (3, [.int 0, .ref em, .int 0])), (q_4, .inr (5, [.ref q_5, .int 0])), (q_5, .inl (cA_6, 256, .inl ((fun _ => 0)))), (q_9, .inr (3, [.int 0, .ref em, .int 0])), (q_10, .inl (cA_13, 2, .inr (.inr (.inr (.inr ((tw_two q_11 q_12))))))), (q_11, .inl (cA_14, 24, .inr (.inr (.inr (.inr ((fun _ => none))))))), (q_12, .inl (cA_14, 24, .inr (.inr (.inr (.inr ((fun _ => none))))))), (q_15, .inr (3, [.int 0, .ref em, .int 0])), (q_18, .inl (cA_19, 1, .inr (.inr (.inr (.inl ((fun _ => 0))))))), (q_16, .inl (cA_17, 1, .inr (.inl ((fun _ => 0)))))]) hP hD hK [10] [0, 1, 2, 3, 4, 5, 6, 7, 8, 9] rfl rfl (by decide) (by decide) hk1 hFc ht hvm hB
  have hP : va_P D vwCl [(q_3, .inr (3, [.int 0, .ref em, .int 0])), (q_4, .inr (5, [.ref q_5, .int 0])), (q_5, .inl (cA_6, 256, .inl ((fun _ => 0)))), (q_9, .inr (3, [.int 0, .ref em, .int 0])), (q_10, .inl (cA_13, 2, .inr (.inr (.inr (.inr ((tw_two q_11 q_12))))))), (q_11, .inl (cA_14, 24, .inr (.inr (.inr (.inr ((fun _ => none))))))), (q_12, .inl (cA_14, 24, .inr (.inr (.inr (.inr ((fun _ => none))))))), (q_15, .inr (3, [.int 0, .ref em, .int 0])), (q_18, .inl (cA_19, 1, .inr (.inr (.inr (.inl ((fun _ => 0))))))), (q_16, .inl (cA_17, 1, .inr (.inl ((fun _ => 0))))), (q_7, .inr (10, [.int 1, .int 9, .int 0, .int 99, .ref q_8, .ref q_9, .ref q_10, .int 0, .int 0, .int ((-1)), .ref q_15, .long 0]))] _ := hP
  have hD : va_D A [(q_3, .inr (3, [.int 0, .ref em, .int 0])), (q_4, .inr (5, [.ref q_5, .int 0])), (q_5, .inl (cA_6, 256, .inl ((fun _ => 0)))), (q_9, .inr (3, [.int 0, .ref em, .int 0])), (q_10, .inl (cA_13, 2, .inr (.inr (.inr (.inr ((tw_two q_11 q_12))))))), (q_11, .inl (cA_14, 24, .inr (.inr (.inr (.inr ((fun _ => none))))))), (q_12, .inl (cA_14, 24, .inr (.inr (.inr (.inr ((fun _ => none))))))), (q_15, .inr (3, [.int 0, .ref em, .int 0])), (q_18, .inl (cA_19, 1, .inr (.inr (.inr (.inl ((fun _ => 0))))))), (q_16, .inl (cA_17, 1, .inr (.inl ((fun _ => 0))))), (q_7, .inr (10, [.int 1, .int 9, .int 0, .int 99, .ref q_8, .ref q_9, .ref q_10, .int 0, .int 0, .int ((-1)), .ref q_15, .long 0]))] := hD
  have hK : va_K D vwCl [(cA_6, .int), (cA_13, .array (.object "TowerliftryModel$Car")), (cA_14, .object "TowerliftryModel$Car"), (cA_17, .long), (cA_19, .double)] s := hK
  refine W.widen (k := 15) (n := 355) (Nat.le_refl _) (Nat.le_refl _) ?_
  refine W.eq (g2 := F0 m 938 ls [.int 1]) rfl ?_
  refine lv_iload hx hb dL_law_938 (lv_at hl 1 rfl) ?_
  refine lv_icmp_eq (tgt := 945) hx hb dL_law_940 (by decide) (fun c9 => ?_) (fun c9 => absurd c9 (by decide))
  refine lv_iload hx hb dL_law_945 (lv_at hl 1 rfl) ?_
  refine lv_if_ne (tgt := 962) hx hb dL_law_947 (by decide) (fun c9 => ?_) (fun c9 => absurd c9 (by decide))
  refine lv_goto (tgt := 2056) hx hb dL_law_962 (by decide) ?_
  refine W.widen (k := 20000) (n := 60000) (Nat.le_of_ble_eq_true rfl) (Nat.le_of_ble_eq_true rfl) ?_
  exact tw_tail C0 hAe hS (lv_sub hl [2, 7] rfl)
