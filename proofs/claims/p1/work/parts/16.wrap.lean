theorem dL_setTop_0 : decode cL_setTop 0 = .ok (.aload_n 2, 1) := by decide +kernel
theorem dL_setTop_1 : decode cL_setTop 1 = .ok (.iconst 0, 1) := by decide +kernel
theorem dL_setTop_2 : decode cL_setTop 2 = .ok (.aload_n 0, 1) := by decide +kernel
theorem dL_setTop_3 : decode cL_setTop 3 = .ok (.iload_n 1, 1) := by decide +kernel
set_option maxRecDepth 20000 in
theorem ggL_setTop_X3_setTop : GoodIn wsL_setTop wsX3_setTop := goodIn_ca (goodIn_ca (goodIn_r _ [7, 8, 9, 10, 11, 12, 13, 14, 15, 16, 17, 18, 19, 20, 21, 22, 23, 24, 25, 26, 27, 28, 29, 30, 31, 32, 33, 34, 35] (by decide +kernel) (by decide +kernel)) (goodIn_sub (fun _ h => List.mem_cons_of_mem _ (List.mem_append_left _ (List.mem_append_right _ h))) (by decide +kernel))) (goodIn_sub (fun _ h => List.mem_cons_of_mem _ (List.mem_append_right _ h)) (by decide +kernel))
set_option maxRecDepth 20000 in
theorem gL_setTop_X3_setTop : GoodIn wsL_setTop (wsV RL 7 RX3 yX3_setTop wsX3_setTop) := goodIn_app (goodIn_of _ (by decide +kernel)) ggL_setTop_X3_setTop
theorem dL_setTop_4 : decode cL_setTop 4 = .ok (.invokevirtual 7, 3) := by decide +kernel
theorem dL_setTop_12 : decode cL_setTop 12 = .ok (.astore_n 3, 1) := by decide +kernel
theorem dL_setTop_13 : decode cL_setTop 13 = .ok (.iconst 1, 1) := by decide +kernel
theorem dL_setTop_14 : decode cL_setTop 14 = .ok (.ireturn, 1) := by decide +kernel
theorem dL_setTop_7 : decode cL_setTop 7 = .ok (.i2l, 1) := by decide +kernel
theorem dL_setTop_8 : decode cL_setTop 8 = .ok (.lastore, 1) := by decide +kernel
theorem dL_setTop_9 : decode cL_setTop 9 = .ok (.goto 9, 3) := by decide +kernel
theorem dL_setTop_18 : decode cL_setTop 18 = .ok (.iconst 0, 1) := by decide +kernel
theorem dL_setTop_19 : decode cL_setTop 19 = .ok (.ireturn, 1) := by decide +kernel
theorem dL_car_0 : decode cL_car 0 = .ok (.aload 4, 2) := by decide +kernel
theorem dL_car_2 : decode cL_car 2 = .ok (.iconst 0, 1) := by decide +kernel
theorem dL_car_3 : decode cL_car 3 = .ok (.aload_n 0, 1) := by decide +kernel
theorem dL_car_4 : decode cL_car 4 = .ok (.iload_n 1, 1) := by decide +kernel
theorem dL_car_5 : decode cL_car 5 = .ok (.iload_n 2, 1) := by decide +kernel
theorem dL_car_6 : decode cL_car 6 = .ok (.iload_n 3, 1) := by decide +kernel
set_option maxRecDepth 20000 in
theorem ggL_car_X3_car_c0 : GoodIn wsL_car [Cond.code yX3_car cX3_car 6 (some .int)] := goodIn_r _ [8] (by decide +kernel) (by decide +kernel)
set_option maxRecDepth 20000 in
theorem ggL_car_X3_car_c1 : GoodIn wsL_car wsX3_car_r1 := goodIn_r _ [9, 10, 11, 12, 13, 14, 15, 16, 17, 18, 19, 20, 21, 22, 23, 7, 24, 25, 26, 27, 28, 29, 30, 31] (by decide +kernel) (by decide +kernel)
set_option maxRecDepth 20000 in
theorem ggL_car_X3_car_c2 : GoodIn wsL_car wsX3_car_r2 := goodIn_r _ [32, 33, 34, 35, 36, 37, 38, 39, 40, 41, 42, 43, 44, 45, 46, 47, 48, 49, 50, 51, 52, 53, 54, 55] (by decide +kernel) (by decide +kernel)
set_option maxRecDepth 20000 in
theorem ggL_car_X3_car_c3 : GoodIn wsL_car wsX3_car_r3 := goodIn_r _ [56, 57, 58, 59, 60, 61, 62, 63, 64, 65, 66, 67, 68, 69, 70, 71, 72, 73, 74, 75, 76, 77, 78, 79] (by decide +kernel) (by decide +kernel)
set_option maxRecDepth 20000 in
theorem ggL_car_X3_car_c4 : GoodIn wsL_car wsX3_car_r4 := goodIn_r _ [80, 81, 82, 83, 84, 85, 86, 87, 88, 89, 90, 91, 92, 93, 94, 95, 96, 97, 98, 99, 100, 101, 102, 103] (by decide +kernel) (by decide +kernel)
set_option maxRecDepth 20000 in
theorem ggL_car_X3_car_c5 : GoodIn wsL_car wsX3_car_r5 := goodIn_r _ [104, 105, 106, 107, 108, 109, 110, 111, 112, 113, 114, 115, 116, 117, 118, 119, 120, 121, 122, 123, 124, 125, 126, 127] (by decide +kernel) (by decide +kernel)
set_option maxRecDepth 20000 in
theorem ggL_car_X3_car_c6 : GoodIn wsL_car wsX3_car_r6 := goodIn_r _ [128, 129, 130, 131, 132, 133, 134, 135, 136, 137, 138, 139, 140, 141, 142, 143, 144, 145] (by decide +kernel) (by decide +kernel)
set_option maxRecDepth 20000 in
theorem ggL_car_X3_car_c7 : GoodIn wsL_car wsX30 := goodIn_r _ [146, 147, 148, 149, 150, 151, 152, 153, 154, 155, 156, 157] (by decide +kernel) (by decide +kernel)
set_option maxRecDepth 20000 in
theorem ggL_car_X3_car_c8 : GoodIn wsL_car wsX00 := goodIn_r _ [158, 159, 160, 161, 162, 163, 164, 165, 166, 167, 168, 169, 170, 171, 172, 173, 174, 175, 176] (by decide +kernel) (by decide +kernel)
set_option maxRecDepth 20000 in
theorem ggL_car_X3_car_c9 : GoodIn wsL_car wsJx4a65c0 := goodIn_r _ [177, 178, 179] (by decide +kernel) (by decide +kernel)
set_option maxRecDepth 20000 in
theorem ggL_car_X3_car : GoodIn wsL_car wsX3_car := goodIn_ca (goodIn_ca (goodIn_ca (tw_gc ggL_car_X3_car_c0 (goodIn_app (goodIn_app (goodIn_app (goodIn_app ggL_car_X3_car_c1 (goodIn_app ggL_car_X3_car_c2 (goodIn_app ggL_car_X3_car_c3 (goodIn_app ggL_car_X3_car_c4 (goodIn_app ggL_car_X3_car_c5 ggL_car_X3_car_c6))))) ggL_car_X3_car_c7) ggL_car_X3_car_c8) ggL_car_X3_car_c9)) (goodIn_sub (fun _ h => List.mem_cons_of_mem _ (List.mem_append_left _ (List.mem_append_left _ (List.mem_append_right _ h)))) (by decide +kernel))) (goodIn_sub (fun _ h => List.mem_cons_of_mem _ (List.mem_append_left _ (List.mem_append_right _ h))) (by decide +kernel))) (goodIn_sub (fun _ h => List.mem_cons_of_mem _ (List.mem_append_right _ h)) (by decide +kernel))
set_option maxRecDepth 20000 in
theorem gL_car_X3_car : GoodIn wsL_car (wsV RL 17 RX3 yX3_car wsX3_car) := goodIn_app (goodIn_of _ (by decide +kernel)) ggL_car_X3_car
theorem dL_car_7 : decode cL_car 7 = .ok (.invokevirtual 17, 3) := by decide +kernel
theorem dL_car_15 : decode cL_car 15 = .ok (.astore 5, 2) := by decide +kernel
theorem dL_car_17 : decode cL_car 17 = .ok (.iconst 1, 1) := by decide +kernel
theorem dL_car_18 : decode cL_car 18 = .ok (.ireturn, 1) := by decide +kernel
theorem dL_car_10 : decode cL_car 10 = .ok (.i2l, 1) := by decide +kernel
theorem dL_car_11 : decode cL_car 11 = .ok (.lastore, 1) := by decide +kernel
theorem dL_car_12 : decode cL_car 12 = .ok (.goto 15, 3) := by decide +kernel
theorem dL_car_27 : decode cL_car 27 = .ok (.iconst 0, 1) := by decide +kernel
theorem dL_car_28 : decode cL_car 28 = .ok (.ireturn, 1) := by decide +kernel
theorem dL_setDispatcher_0 : decode cL_setDispatcher 0 = .ok (.aload_n 2, 1) := by decide +kernel
theorem dL_setDispatcher_1 : decode cL_setDispatcher 1 = .ok (.iconst 0, 1) := by decide +kernel
theorem dL_setDispatcher_2 : decode cL_setDispatcher 2 = .ok (.aload_n 0, 1) := by decide +kernel
theorem dL_setDispatcher_3 : decode cL_setDispatcher 3 = .ok (.iload_n 1, 1) := by decide +kernel
set_option maxRecDepth 20000 in
theorem ggL_setDispatcher_X3_setDispatcher : GoodIn wsL_setDispatcher wsX3_setDispatcher := goodIn_ca (goodIn_r _ [6, 7, 8, 9, 10, 11, 12, 13, 14, 15, 16, 17, 18, 19, 20, 21] (by decide +kernel) (by decide +kernel)) (goodIn_sub (fun _ h => List.mem_cons_of_mem _ (List.mem_append_right _ h)) (by decide +kernel))
set_option maxRecDepth 20000 in
theorem gL_setDispatcher_X3_setDispatcher : GoodIn wsL_setDispatcher (wsV RL 23 RX3 yX3_setDispatcher wsX3_setDispatcher) := goodIn_app (goodIn_of _ (by decide +kernel)) ggL_setDispatcher_X3_setDispatcher
theorem dL_setDispatcher_4 : decode cL_setDispatcher 4 = .ok (.invokevirtual 23, 3) := by decide +kernel
theorem dL_setDispatcher_12 : decode cL_setDispatcher 12 = .ok (.astore_n 3, 1) := by decide +kernel
theorem dL_setDispatcher_13 : decode cL_setDispatcher 13 = .ok (.iconst 1, 1) := by decide +kernel
theorem dL_setDispatcher_14 : decode cL_setDispatcher 14 = .ok (.ireturn, 1) := by decide +kernel
theorem dL_setDispatcher_7 : decode cL_setDispatcher 7 = .ok (.i2l, 1) := by decide +kernel
theorem dL_setDispatcher_8 : decode cL_setDispatcher 8 = .ok (.lastore, 1) := by decide +kernel
theorem dL_setDispatcher_9 : decode cL_setDispatcher 9 = .ok (.goto 6, 3) := by decide +kernel
theorem dL_setDispatcher_15 : decode cL_setDispatcher 15 = .ok (.iconst 0, 1) := by decide +kernel
theorem dL_setDispatcher_16 : decode cL_setDispatcher 16 = .ok (.ireturn, 1) := by decide +kernel
theorem dL_come_0 : decode cL_come 0 = .ok (.aload 6, 2) := by decide +kernel
theorem dL_come_2 : decode cL_come 2 = .ok (.iconst 0, 1) := by decide +kernel
theorem dL_come_3 : decode cL_come 3 = .ok (.aload_n 0, 1) := by decide +kernel
theorem dL_come_4 : decode cL_come 4 = .ok (.iload_n 1, 1) := by decide +kernel
theorem dL_come_5 : decode cL_come 5 = .ok (.iload_n 2, 1) := by decide +kernel
theorem dL_come_6 : decode cL_come 6 = .ok (.iload_n 3, 1) := by decide +kernel
theorem dL_come_7 : decode cL_come 7 = .ok (.iload 4, 2) := by decide +kernel
theorem dL_come_9 : decode cL_come 9 = .ok (.iload 5, 2) := by decide +kernel
set_option maxRecDepth 20000 in
theorem ggL_come_X3_come_c0 : GoodIn wsL_come [Cond.code yX3_come cX3_come 7 (some .int)] := goodIn_r _ [7] (by decide +kernel) (by decide +kernel)
set_option maxRecDepth 20000 in
theorem ggL_come_X3_come_c1 : GoodIn wsL_come wsX3_come_r1 := goodIn_r _ [8, 9, 10, 11, 12, 13, 14, 15, 16, 17, 18, 19, 6, 20, 21, 22, 23, 24, 25, 26, 27, 28, 29, 30] (by decide +kernel) (by decide +kernel)
set_option maxRecDepth 20000 in
theorem ggL_come_X3_come_c2 : GoodIn wsL_come wsX3_come_r2 := goodIn_r _ [31, 32, 33, 34, 35, 36, 37, 38, 39, 40, 41, 42, 43, 44, 45, 46, 47, 48, 49, 50, 51, 52, 53, 54] (by decide +kernel) (by decide +kernel)
set_option maxRecDepth 20000 in
theorem ggL_come_X3_come_c3 : GoodIn wsL_come wsX3_come_r3 := goodIn_r _ [55, 56, 57, 58, 59, 60, 61, 62, 63, 64, 65, 66, 67, 68, 69, 70, 71, 72, 73, 74, 75, 76, 77, 78] (by decide +kernel) (by decide +kernel)
set_option maxRecDepth 20000 in
theorem ggL_come_X3_come_c4 : GoodIn wsL_come wsX3_come_r4 := goodIn_r _ [79, 80, 81, 82, 83, 84, 85, 86, 87, 88, 89, 90, 91, 92, 93, 94, 95, 96, 97, 98, 99, 100, 101, 102] (by decide +kernel) (by decide +kernel)
set_option maxRecDepth 20000 in
theorem ggL_come_X3_come_c5 : GoodIn wsL_come wsX3_come_r5 := goodIn_r _ [103, 104, 105, 106] (by decide +kernel) (by decide +kernel)
set_option maxRecDepth 20000 in
theorem ggL_come_X3_come_c6 : GoodIn wsL_come wsX30 := goodIn_r _ [107, 108, 109, 110, 111, 112, 113, 114, 115, 116, 117, 118] (by decide +kernel) (by decide +kernel)
set_option maxRecDepth 20000 in
theorem ggL_come_X3_come_c7 : GoodIn wsL_come wsX20 := goodIn_r _ [119, 120, 121, 122, 123, 124, 125] (by decide +kernel) (by decide +kernel)
set_option maxRecDepth 20000 in
theorem ggL_come_X3_come_c8 : GoodIn wsL_come wsJx4a65c0 := goodIn_r _ [126, 127, 128] (by decide +kernel) (by decide +kernel)
set_option maxRecDepth 20000 in
theorem ggL_come_X3_come : GoodIn wsL_come wsX3_come := goodIn_ca (goodIn_ca (tw_gc ggL_come_X3_come_c0 (goodIn_app (goodIn_app (goodIn_app (goodIn_app ggL_come_X3_come_c1 (goodIn_app ggL_come_X3_come_c2 (goodIn_app ggL_come_X3_come_c3 (goodIn_app ggL_come_X3_come_c4 ggL_come_X3_come_c5)))) ggL_come_X3_come_c6) ggL_come_X3_come_c7) ggL_come_X3_come_c8)) (goodIn_sub (fun _ h => List.mem_cons_of_mem _ (List.mem_append_left _ (List.mem_append_right _ h))) (by decide +kernel))) (goodIn_sub (fun _ h => List.mem_cons_of_mem _ (List.mem_append_right _ h)) (by decide +kernel))
set_option maxRecDepth 20000 in
theorem gL_come_X3_come : GoodIn wsL_come (wsV RL 27 RX3 yX3_come wsX3_come) := goodIn_app (goodIn_of _ (by decide +kernel)) ggL_come_X3_come
theorem dL_come_11 : decode cL_come 11 = .ok (.invokevirtual 27, 3) := by decide +kernel
theorem dL_come_19 : decode cL_come 19 = .ok (.astore 7, 2) := by decide +kernel
theorem dL_come_21 : decode cL_come 21 = .ok (.iconst 1, 1) := by decide +kernel
theorem dL_come_22 : decode cL_come 22 = .ok (.ireturn, 1) := by decide +kernel
theorem dL_come_14 : decode cL_come 14 = .ok (.i2l, 1) := by decide +kernel
theorem dL_come_15 : decode cL_come 15 = .ok (.lastore, 1) := by decide +kernel
theorem dL_come_16 : decode cL_come 16 = .ok (.goto 11, 3) := by decide +kernel
theorem dL_come_27 : decode cL_come 27 = .ok (.iconst 0, 1) := by decide +kernel
theorem dL_come_28 : decode cL_come 28 = .ok (.ireturn, 1) := by decide +kernel
theorem dL_park_0 : decode cL_park 0 = .ok (.aload_n 3, 1) := by decide +kernel
theorem dL_park_1 : decode cL_park 1 = .ok (.iconst 0, 1) := by decide +kernel
theorem dL_park_2 : decode cL_park 2 = .ok (.aload_n 0, 1) := by decide +kernel
theorem dL_park_3 : decode cL_park 3 = .ok (.iload_n 1, 1) := by decide +kernel
theorem dL_park_4 : decode cL_park 4 = .ok (.iload_n 2, 1) := by decide +kernel
set_option maxRecDepth 20000 in
theorem ggL_park_X3_park_c0 : GoodIn wsL_park [Cond.code yX3_park cX3_park 5 (some .int)] := goodIn_r _ [7] (by decide +kernel) (by decide +kernel)
set_option maxRecDepth 20000 in
theorem ggL_park_X3_park_c1 : GoodIn wsL_park wsX3_park_r1 := goodIn_r _ [8, 9, 10, 11, 6, 12, 13, 14, 15, 16, 17, 18, 19, 20, 21, 22, 23, 24, 25, 26, 27, 28, 29, 30] (by decide +kernel) (by decide +kernel)
set_option maxRecDepth 20000 in
theorem ggL_park_X3_park_c2 : GoodIn wsL_park wsX3_park_r2 := goodIn_r _ [31, 32, 33, 34, 35, 36, 37, 38, 39, 40, 41, 42, 43, 44, 45, 46, 47, 48, 49, 50] (by decide +kernel) (by decide +kernel)
set_option maxRecDepth 20000 in
theorem ggL_park_X3_park_c3 : GoodIn wsL_park wsX00 := goodIn_r _ [51, 52, 53, 54, 55, 56, 57, 58, 59, 60, 61, 62, 63, 64, 65, 66, 67, 68, 69] (by decide +kernel) (by decide +kernel)
set_option maxRecDepth 20000 in
theorem ggL_park_X3_park_c4 : GoodIn wsL_park wsX30 := goodIn_r _ [70, 71, 72, 73, 74, 75, 76, 77, 78, 79, 80, 81] (by decide +kernel) (by decide +kernel)
set_option maxRecDepth 20000 in
theorem ggL_park_X3_park_c5 : GoodIn wsL_park wsJx4a65c0 := goodIn_r _ [82, 83, 84] (by decide +kernel) (by decide +kernel)
set_option maxRecDepth 20000 in
theorem ggL_park_X3_park : GoodIn wsL_park wsX3_park := goodIn_ca (goodIn_ca (tw_gc ggL_park_X3_park_c0 (goodIn_app (goodIn_app (goodIn_app (goodIn_app ggL_park_X3_park_c1 ggL_park_X3_park_c2) ggL_park_X3_park_c3) ggL_park_X3_park_c4) ggL_park_X3_park_c5)) (goodIn_sub (fun _ h => List.mem_cons_of_mem _ (List.mem_append_left _ (List.mem_append_right _ h))) (by decide +kernel))) (goodIn_sub (fun _ h => List.mem_cons_of_mem _ (List.mem_append_right _ h)) (by decide +kernel))
set_option maxRecDepth 20000 in
theorem gL_park_X3_park : GoodIn wsL_park (wsV RL 31 RX3 yX3_park wsX3_park) := goodIn_app (goodIn_of _ (by decide +kernel)) ggL_park_X3_park
theorem dL_park_5 : decode cL_park 5 = .ok (.invokevirtual 31, 3) := by decide +kernel
theorem dL_park_13 : decode cL_park 13 = .ok (.astore 4, 2) := by decide +kernel
theorem dL_park_15 : decode cL_park 15 = .ok (.iconst 1, 1) := by decide +kernel
theorem dL_park_16 : decode cL_park 16 = .ok (.ireturn, 1) := by decide +kernel
theorem dL_serves_0 : decode cL_serves 0 = .ok (.aload_n 3, 1) := by decide +kernel
theorem dL_serves_1 : decode cL_serves 1 = .ok (.iconst 0, 1) := by decide +kernel
theorem dL_serves_2 : decode cL_serves 2 = .ok (.aload_n 0, 1) := by decide +kernel
theorem dL_serves_3 : decode cL_serves 3 = .ok (.iload_n 1, 1) := by decide +kernel
theorem dL_serves_4 : decode cL_serves 4 = .ok (.iload_n 2, 1) := by decide +kernel
set_option maxRecDepth 20000 in
theorem ggL_serves_X3_serves_c0 : GoodIn wsL_serves [Cond.code yX3_serves cX3_serves 4 (some .boolean)] := goodIn_r _ [7] (by decide +kernel) (by decide +kernel)
set_option maxRecDepth 20000 in
theorem ggL_serves_X3_serves_c1 : GoodIn wsL_serves wsX3_serves_r1 := goodIn_r _ [8, 9, 10, 11, 6, 12, 13, 14, 15, 16, 17, 18, 19, 20, 21, 22, 23, 24, 25, 26, 27, 28, 29, 30] (by decide +kernel) (by decide +kernel)
set_option maxRecDepth 20000 in
theorem ggL_serves_X3_serves_c2 : GoodIn wsL_serves wsX3_serves_r2 := goodIn_r _ [31, 32, 33, 34, 35, 36, 37, 38, 39, 40, 41, 42, 43, 44, 45, 46, 47, 48, 49, 50, 51, 52, 53] (by decide +kernel) (by decide +kernel)
set_option maxRecDepth 20000 in
theorem ggL_serves_X3_serves_c3 : GoodIn wsL_serves wsX00 := goodIn_r _ [54, 55, 56, 57, 58, 59, 60, 61, 62, 63, 64, 65, 66, 67, 68, 69, 70, 71, 72] (by decide +kernel) (by decide +kernel)
set_option maxRecDepth 20000 in
theorem ggL_serves_X3_serves_c4 : GoodIn wsL_serves wsX30 := goodIn_r _ [73, 74, 75, 76, 77, 78, 79, 80, 81, 82, 83, 84] (by decide +kernel) (by decide +kernel)
set_option maxRecDepth 20000 in
theorem ggL_serves_X3_serves_c5 : GoodIn wsL_serves wsJx4a65c0 := goodIn_r _ [85, 86, 87] (by decide +kernel) (by decide +kernel)
set_option maxRecDepth 20000 in
theorem ggL_serves_X3_serves : GoodIn wsL_serves wsX3_serves := goodIn_ca (goodIn_ca (tw_gc ggL_serves_X3_serves_c0 (goodIn_app (goodIn_app (goodIn_app (goodIn_app ggL_serves_X3_serves_c1 ggL_serves_X3_serves_c2) ggL_serves_X3_serves_c3) ggL_serves_X3_serves_c4) ggL_serves_X3_serves_c5)) (goodIn_sub (fun _ h => List.mem_cons_of_mem _ (List.mem_append_left _ (List.mem_append_right _ h))) (by decide +kernel))) (goodIn_sub (fun _ h => List.mem_cons_of_mem _ (List.mem_append_right _ h)) (by decide +kernel))
set_option maxRecDepth 20000 in
theorem gL_serves_X3_serves : GoodIn wsL_serves (wsV RL 37 RX3 yX3_serves wsX3_serves) := goodIn_app (goodIn_of _ (by decide +kernel)) ggL_serves_X3_serves
theorem dL_serves_5 : decode cL_serves 5 = .ok (.invokevirtual 37, 3) := by decide +kernel
theorem dL_serves_20 : decode cL_serves 20 = .ok (.astore 4, 2) := by decide +kernel
theorem dL_serves_22 : decode cL_serves 22 = .ok (.iconst 1, 1) := by decide +kernel
theorem dL_serves_23 : decode cL_serves 23 = .ok (.ireturn, 1) := by decide +kernel
theorem dL_floorOf_0 : decode cL_floorOf 0 = .ok (.aload_n 2, 1) := by decide +kernel
theorem dL_floorOf_1 : decode cL_floorOf 1 = .ok (.iconst 0, 1) := by decide +kernel
theorem dL_floorOf_2 : decode cL_floorOf 2 = .ok (.aload_n 0, 1) := by decide +kernel
theorem dL_floorOf_3 : decode cL_floorOf 3 = .ok (.iload_n 1, 1) := by decide +kernel
set_option maxRecDepth 20000 in
theorem ggL_floorOf_X3_floorOf_c0 : GoodIn wsL_floorOf [Cond.code yX3_floorOf cX3_floorOf 2 (some .int)] := goodIn_r _ [6] (by decide +kernel) (by decide +kernel)
set_option maxRecDepth 20000 in
theorem ggL_floorOf_X3_floorOf_c1 : GoodIn wsL_floorOf wsX3_floorOf_r1 := goodIn_r _ [7, 8, 9, 10, 5, 11, 12, 13, 14, 15, 16, 17, 18, 19, 20, 21, 22, 23, 24, 25, 26, 27, 28, 29] (by decide +kernel) (by decide +kernel)
set_option maxRecDepth 20000 in
theorem ggL_floorOf_X3_floorOf_c2 : GoodIn wsL_floorOf wsX3_floorOf_r2 := goodIn_r _ [30, 31, 32, 33, 34, 35, 36, 37, 38] (by decide +kernel) (by decide +kernel)
set_option maxRecDepth 20000 in
theorem ggL_floorOf_X3_floorOf_c3 : GoodIn wsL_floorOf wsX00 := goodIn_r _ [39, 40, 41, 42, 43, 44, 45, 46, 47, 48, 49, 50, 51, 52, 53, 54, 55, 56, 57] (by decide +kernel) (by decide +kernel)
set_option maxRecDepth 20000 in
theorem ggL_floorOf_X3_floorOf_c4 : GoodIn wsL_floorOf wsX30 := goodIn_r _ [58, 59, 60, 61, 62, 63, 64, 65, 66, 67, 68, 69] (by decide +kernel) (by decide +kernel)
set_option maxRecDepth 20000 in
theorem ggL_floorOf_X3_floorOf_c5 : GoodIn wsL_floorOf wsJx4a65c0 := goodIn_r _ [70, 71, 72] (by decide +kernel) (by decide +kernel)
set_option maxRecDepth 20000 in
theorem ggL_floorOf_X3_floorOf : GoodIn wsL_floorOf wsX3_floorOf := goodIn_ca (tw_gc ggL_floorOf_X3_floorOf_c0 (goodIn_app (goodIn_app (goodIn_app (goodIn_app ggL_floorOf_X3_floorOf_c1 ggL_floorOf_X3_floorOf_c2) ggL_floorOf_X3_floorOf_c3) ggL_floorOf_X3_floorOf_c4) ggL_floorOf_X3_floorOf_c5)) (goodIn_sub (fun _ h => List.mem_cons_of_mem _ (List.mem_append_right _ h)) (by decide +kernel))
set_option maxRecDepth 20000 in
theorem gL_floorOf_X3_floorOf : GoodIn wsL_floorOf (wsV RL 54 RX3 yX3_floorOf wsX3_floorOf) := goodIn_app (goodIn_of _ (by decide +kernel)) ggL_floorOf_X3_floorOf
theorem dL_floorOf_4 : decode cL_floorOf 4 = .ok (.invokevirtual 54, 3) := by decide +kernel
theorem dL_floorOf_12 : decode cL_floorOf 12 = .ok (.astore_n 3, 1) := by decide +kernel
theorem dL_floorOf_13 : decode cL_floorOf 13 = .ok (.iconst 1, 1) := by decide +kernel
theorem dL_floorOf_14 : decode cL_floorOf 14 = .ok (.ireturn, 1) := by decide +kernel
theorem dL_floorByLog_0 : decode cL_floorByLog 0 = .ok (.aload_n 2, 1) := by decide +kernel
theorem dL_floorByLog_1 : decode cL_floorByLog 1 = .ok (.iconst 0, 1) := by decide +kernel
theorem dL_floorByLog_2 : decode cL_floorByLog 2 = .ok (.aload_n 0, 1) := by decide +kernel
theorem dL_floorByLog_3 : decode cL_floorByLog 3 = .ok (.iload_n 1, 1) := by decide +kernel
set_option maxRecDepth 20000 in
theorem ggL_floorByLog_X3_floorByLog_c0 : GoodIn wsL_floorByLog [Cond.code yX3_floorByLog cX3_floorByLog 2 (some .int)] := goodIn_r _ [6] (by decide +kernel) (by decide +kernel)
set_option maxRecDepth 20000 in
theorem ggL_floorByLog_X3_floorByLog_c1 : GoodIn wsL_floorByLog wsX3_floorByLog_r1 := goodIn_r _ [7, 8, 9, 5, 10, 11, 12, 13, 14, 15, 16, 17, 18, 19, 20, 21, 22, 23, 24, 25, 26, 27, 28, 29] (by decide +kernel) (by decide +kernel)
set_option maxRecDepth 20000 in
theorem ggL_floorByLog_X3_floorByLog_c2 : GoodIn wsL_floorByLog wsX3_floorByLog_r2 := goodIn_r _ [30, 31, 32, 33, 34, 35, 36, 37, 38, 39, 40, 41, 42, 43, 44, 45, 46, 47, 48, 49, 50, 51, 52, 53] (by decide +kernel) (by decide +kernel)
set_option maxRecDepth 20000 in
theorem ggL_floorByLog_X3_floorByLog_c3 : GoodIn wsL_floorByLog wsX3_floorByLog_r3 := goodIn_r _ [54] (by decide +kernel) (by decide +kernel)
set_option maxRecDepth 20000 in
theorem ggL_floorByLog_X3_floorByLog_c4 : GoodIn wsL_floorByLog wsX30 := goodIn_r _ [55, 56, 57, 58, 59, 60, 61, 62, 63, 64, 65, 66] (by decide +kernel) (by decide +kernel)
set_option maxRecDepth 20000 in
theorem ggL_floorByLog_X3_floorByLog_c5 : GoodIn wsL_floorByLog wsJx4a65c0 := goodIn_r _ [67, 68, 69] (by decide +kernel) (by decide +kernel)
set_option maxRecDepth 20000 in
theorem ggL_floorByLog_X3_floorByLog_c6 : GoodIn wsL_floorByLog wsX00 := goodIn_r _ [70, 71, 72, 73, 74, 75, 76, 77, 78, 79, 80, 81, 82, 83, 84, 85, 86, 87, 88] (by decide +kernel) (by decide +kernel)
set_option maxRecDepth 20000 in
theorem ggL_floorByLog_X3_floorByLog_c7 : GoodIn wsL_floorByLog wsX10 := goodIn_r _ [89, 90] (by decide +kernel) (by decide +kernel)
set_option maxRecDepth 20000 in
theorem ggL_floorByLog_X3_floorByLog : GoodIn wsL_floorByLog wsX3_floorByLog := goodIn_ca (goodIn_ca (tw_gc ggL_floorByLog_X3_floorByLog_c0 (goodIn_app (goodIn_app (goodIn_app (goodIn_app (goodIn_app ggL_floorByLog_X3_floorByLog_c1 (goodIn_app ggL_floorByLog_X3_floorByLog_c2 ggL_floorByLog_X3_floorByLog_c3)) ggL_floorByLog_X3_floorByLog_c4) ggL_floorByLog_X3_floorByLog_c5) ggL_floorByLog_X3_floorByLog_c6) ggL_floorByLog_X3_floorByLog_c7)) (goodIn_sub (fun _ h => List.mem_cons_of_mem _ (List.mem_append_right _ h)) (by decide +kernel))) (goodIn_sub (fun _ h => List.mem_cons_of_mem _ (List.mem_append_left _ (List.mem_append_right _ h))) (by decide +kernel))
set_option maxRecDepth 20000 in
theorem gL_floorByLog_X3_floorByLog : GoodIn wsL_floorByLog (wsV RL 57 RX3 yX3_floorByLog wsX3_floorByLog) := goodIn_app (goodIn_of _ (by decide +kernel)) ggL_floorByLog_X3_floorByLog
theorem dL_floorByLog_4 : decode cL_floorByLog 4 = .ok (.invokevirtual 57, 3) := by decide +kernel
theorem dL_floorByLog_12 : decode cL_floorByLog 12 = .ok (.astore_n 3, 1) := by decide +kernel
theorem dL_floorByLog_13 : decode cL_floorByLog 13 = .ok (.iconst 1, 1) := by decide +kernel
theorem dL_floorByLog_14 : decode cL_floorByLog 14 = .ok (.ireturn, 1) := by decide +kernel
theorem dL_directionOf_0 : decode cL_directionOf 0 = .ok (.aload_n 2, 1) := by decide +kernel
theorem dL_directionOf_1 : decode cL_directionOf 1 = .ok (.iconst 0, 1) := by decide +kernel
theorem dL_directionOf_2 : decode cL_directionOf 2 = .ok (.aload_n 0, 1) := by decide +kernel
theorem dL_directionOf_3 : decode cL_directionOf 3 = .ok (.iload_n 1, 1) := by decide +kernel
set_option maxRecDepth 20000 in
theorem ggL_directionOf_X3_directionOf_c0 : GoodIn wsL_directionOf [Cond.code yX3_directionOf cX3_directionOf 3 (some .char)] := goodIn_r _ [6] (by decide +kernel) (by decide +kernel)
set_option maxRecDepth 20000 in
theorem ggL_directionOf_X3_directionOf_c1 : GoodIn wsL_directionOf wsX3_directionOf_r1 := goodIn_r _ [7, 8, 9, 10, 5, 11, 12, 13, 14, 15, 16, 17, 18, 19, 20, 21, 22, 23, 24, 25, 26, 27, 28, 29] (by decide +kernel) (by decide +kernel)
set_option maxRecDepth 20000 in
theorem ggL_directionOf_X3_directionOf_c2 : GoodIn wsL_directionOf wsX3_directionOf_r2 := goodIn_r _ [30, 31, 32, 33, 34, 35, 36, 37, 38] (by decide +kernel) (by decide +kernel)
set_option maxRecDepth 20000 in
theorem ggL_directionOf_X3_directionOf_c3 : GoodIn wsL_directionOf wsX00 := goodIn_r _ [39, 40, 41, 42, 43, 44, 45, 46, 47, 48, 49, 50, 51, 52, 53, 54, 55, 56, 57] (by decide +kernel) (by decide +kernel)
set_option maxRecDepth 20000 in
theorem ggL_directionOf_X3_directionOf_c4 : GoodIn wsL_directionOf wsX30 := goodIn_r _ [58, 59, 60, 61, 62, 63, 64, 65, 66, 67, 68, 69] (by decide +kernel) (by decide +kernel)
set_option maxRecDepth 20000 in
theorem ggL_directionOf_X3_directionOf_c5 : GoodIn wsL_directionOf wsJx4a65c0 := goodIn_r _ [70, 71, 72] (by decide +kernel) (by decide +kernel)
set_option maxRecDepth 20000 in
theorem ggL_directionOf_X3_directionOf : GoodIn wsL_directionOf wsX3_directionOf := goodIn_ca (tw_gc ggL_directionOf_X3_directionOf_c0 (goodIn_app (goodIn_app (goodIn_app (goodIn_app ggL_directionOf_X3_directionOf_c1 ggL_directionOf_X3_directionOf_c2) ggL_directionOf_X3_directionOf_c3) ggL_directionOf_X3_directionOf_c4) ggL_directionOf_X3_directionOf_c5)) (goodIn_sub (fun _ h => List.mem_cons_of_mem _ (List.mem_append_right _ h)) (by decide +kernel))
set_option maxRecDepth 20000 in
theorem gL_directionOf_X3_directionOf : GoodIn wsL_directionOf (wsV RL 60 RX3 yX3_directionOf wsX3_directionOf) := goodIn_app (goodIn_of _ (by decide +kernel)) ggL_directionOf_X3_directionOf
theorem dL_directionOf_4 : decode cL_directionOf 4 = .ok (.invokevirtual 60, 3) := by decide +kernel
theorem dL_directionOf_12 : decode cL_directionOf 12 = .ok (.astore_n 3, 1) := by decide +kernel
theorem dL_directionOf_13 : decode cL_directionOf 13 = .ok (.iconst 1, 1) := by decide +kernel
theorem dL_directionOf_14 : decode cL_directionOf 14 = .ok (.ireturn, 1) := by decide +kernel
theorem dL_isOpen_0 : decode cL_isOpen 0 = .ok (.aload_n 2, 1) := by decide +kernel
theorem dL_isOpen_1 : decode cL_isOpen 1 = .ok (.iconst 0, 1) := by decide +kernel
theorem dL_isOpen_2 : decode cL_isOpen 2 = .ok (.aload_n 0, 1) := by decide +kernel
theorem dL_isOpen_3 : decode cL_isOpen 3 = .ok (.iload_n 1, 1) := by decide +kernel
set_option maxRecDepth 20000 in
theorem ggL_isOpen_X3_isOpen_c0 : GoodIn wsL_isOpen [Cond.code yX3_isOpen cX3_isOpen 2 (some .boolean)] := goodIn_r _ [6] (by decide +kernel) (by decide +kernel)
set_option maxRecDepth 20000 in
theorem ggL_isOpen_X3_isOpen_c1 : GoodIn wsL_isOpen wsX3_isOpen_r1 := goodIn_r _ [7, 8, 9, 5, 10, 11, 12, 13, 14, 15, 16, 17, 18, 19, 20, 21, 22, 23, 24, 25, 26, 27, 28, 29] (by decide +kernel) (by decide +kernel)
set_option maxRecDepth 20000 in
theorem ggL_isOpen_X3_isOpen_c2 : GoodIn wsL_isOpen wsX3_isOpen_r2 := goodIn_r _ [30, 31, 32, 33, 34, 35, 36, 37, 38, 39, 40, 41, 42, 43] (by decide +kernel) (by decide +kernel)
set_option maxRecDepth 20000 in
theorem ggL_isOpen_X3_isOpen_c3 : GoodIn wsL_isOpen wsX30 := goodIn_r _ [44, 45, 46, 47, 48, 49, 50, 51, 52, 53, 54, 55] (by decide +kernel) (by decide +kernel)
set_option maxRecDepth 20000 in
theorem ggL_isOpen_X3_isOpen_c4 : GoodIn wsL_isOpen wsJx4a65c0 := goodIn_r _ [56, 57, 58] (by decide +kernel) (by decide +kernel)
set_option maxRecDepth 20000 in
theorem ggL_isOpen_X3_isOpen_c5 : GoodIn wsL_isOpen wsX00 := goodIn_r _ [59, 60, 61, 62, 63, 64, 65, 66, 67, 68, 69, 70, 71, 72, 73, 74, 75, 76, 77] (by decide +kernel) (by decide +kernel)
set_option maxRecDepth 20000 in
theorem ggL_isOpen_X3_isOpen : GoodIn wsL_isOpen wsX3_isOpen := goodIn_ca (tw_gc ggL_isOpen_X3_isOpen_c0 (goodIn_app (goodIn_app (goodIn_app (goodIn_app ggL_isOpen_X3_isOpen_c1 ggL_isOpen_X3_isOpen_c2) ggL_isOpen_X3_isOpen_c3) ggL_isOpen_X3_isOpen_c4) ggL_isOpen_X3_isOpen_c5)) (goodIn_sub (fun _ h => List.mem_cons_of_mem _ (List.mem_append_right _ h)) (by decide +kernel))
set_option maxRecDepth 20000 in
theorem gL_isOpen_X3_isOpen : GoodIn wsL_isOpen (wsV RL 63 RX3 yX3_isOpen wsX3_isOpen) := goodIn_app (goodIn_of _ (by decide +kernel)) ggL_isOpen_X3_isOpen
theorem dL_isOpen_4 : decode cL_isOpen 4 = .ok (.invokevirtual 63, 3) := by decide +kernel
theorem dL_isOpen_19 : decode cL_isOpen 19 = .ok (.astore_n 3, 1) := by decide +kernel
theorem dL_isOpen_20 : decode cL_isOpen 20 = .ok (.iconst 1, 1) := by decide +kernel
theorem dL_isOpen_21 : decode cL_isOpen 21 = .ok (.ireturn, 1) := by decide +kernel
theorem dL_load_0 : decode cL_load 0 = .ok (.aload_n 2, 1) := by decide +kernel
theorem dL_load_1 : decode cL_load 1 = .ok (.iconst 0, 1) := by decide +kernel
theorem dL_load_2 : decode cL_load 2 = .ok (.aload_n 0, 1) := by decide +kernel
theorem dL_load_3 : decode cL_load 3 = .ok (.iload_n 1, 1) := by decide +kernel
set_option maxRecDepth 20000 in
theorem ggL_load_X3_load_c0 : GoodIn wsL_load [Cond.code yX3_load cX3_load 2 (some .int)] := goodIn_r _ [6] (by decide +kernel) (by decide +kernel)
set_option maxRecDepth 20000 in
theorem ggL_load_X3_load_c1 : GoodIn wsL_load wsX3_load_r1 := goodIn_r _ [7, 8, 9, 10, 5, 11, 12, 13, 14, 15, 16, 17, 18, 19, 20, 21, 22, 23, 24, 25, 26, 27, 28, 29] (by decide +kernel) (by decide +kernel)
set_option maxRecDepth 20000 in
theorem ggL_load_X3_load_c2 : GoodIn wsL_load wsX3_load_r2 := goodIn_r _ [30, 31, 32, 33, 34, 35, 36, 37, 38] (by decide +kernel) (by decide +kernel)
set_option maxRecDepth 20000 in
theorem ggL_load_X3_load_c3 : GoodIn wsL_load wsX00 := goodIn_r _ [39, 40, 41, 42, 43, 44, 45, 46, 47, 48, 49, 50, 51, 52, 53, 54, 55, 56, 57] (by decide +kernel) (by decide +kernel)
set_option maxRecDepth 20000 in
theorem ggL_load_X3_load_c4 : GoodIn wsL_load wsX30 := goodIn_r _ [58, 59, 60, 61, 62, 63, 64, 65, 66, 67, 68, 69] (by decide +kernel) (by decide +kernel)
set_option maxRecDepth 20000 in
theorem ggL_load_X3_load_c5 : GoodIn wsL_load wsJx4a65c0 := goodIn_r _ [70, 71, 72] (by decide +kernel) (by decide +kernel)
set_option maxRecDepth 20000 in
theorem ggL_load_X3_load : GoodIn wsL_load wsX3_load := goodIn_ca (tw_gc ggL_load_X3_load_c0 (goodIn_app (goodIn_app (goodIn_app (goodIn_app ggL_load_X3_load_c1 ggL_load_X3_load_c2) ggL_load_X3_load_c3) ggL_load_X3_load_c4) ggL_load_X3_load_c5)) (goodIn_sub (fun _ h => List.mem_cons_of_mem _ (List.mem_append_right _ h)) (by decide +kernel))
set_option maxRecDepth 20000 in
theorem gL_load_X3_load : GoodIn wsL_load (wsV RL 67 RX3 yX3_load wsX3_load) := goodIn_app (goodIn_of _ (by decide +kernel)) ggL_load_X3_load
theorem dL_load_4 : decode cL_load 4 = .ok (.invokevirtual 67, 3) := by decide +kernel
theorem dL_load_12 : decode cL_load 12 = .ok (.astore_n 3, 1) := by decide +kernel
theorem dL_load_13 : decode cL_load 13 = .ok (.iconst 1, 1) := by decide +kernel
theorem dL_load_14 : decode cL_load 14 = .ok (.ireturn, 1) := by decide +kernel
theorem dL_stops_0 : decode cL_stops 0 = .ok (.aload_n 2, 1) := by decide +kernel
theorem dL_stops_1 : decode cL_stops 1 = .ok (.iconst 0, 1) := by decide +kernel
theorem dL_stops_2 : decode cL_stops 2 = .ok (.aload_n 0, 1) := by decide +kernel
theorem dL_stops_3 : decode cL_stops 3 = .ok (.iload_n 1, 1) := by decide +kernel
set_option maxRecDepth 20000 in
theorem ggL_stops_X3_stops_c0 : GoodIn wsL_stops [Cond.code yX3_stops cX3_stops 2 (some .int)] := goodIn_r _ [6] (by decide +kernel) (by decide +kernel)
set_option maxRecDepth 20000 in
theorem ggL_stops_X3_stops_c1 : GoodIn wsL_stops wsX3_stops_r1 := goodIn_r _ [7, 8, 9, 5, 10, 11, 12, 13, 14, 15, 16, 17, 18, 19, 20, 21, 22, 23, 24, 25, 26, 27, 28, 29] (by decide +kernel) (by decide +kernel)
set_option maxRecDepth 20000 in
theorem ggL_stops_X3_stops_c2 : GoodIn wsL_stops wsX3_stops_r2 := goodIn_r _ [30, 31, 32, 33, 34, 35, 36, 37, 38, 39, 40, 41, 42, 43, 44, 45, 46, 47, 48, 49, 50, 51, 52, 53] (by decide +kernel) (by decide +kernel)
set_option maxRecDepth 20000 in
theorem ggL_stops_X3_stops_c3 : GoodIn wsL_stops wsX3_stops_r3 := goodIn_r _ [54, 55, 56] (by decide +kernel) (by decide +kernel)
set_option maxRecDepth 20000 in
theorem ggL_stops_X3_stops_c4 : GoodIn wsL_stops wsX30 := goodIn_r _ [57, 58, 59, 60, 61, 62, 63, 64, 65, 66, 67, 68] (by decide +kernel) (by decide +kernel)
set_option maxRecDepth 20000 in
theorem ggL_stops_X3_stops_c5 : GoodIn wsL_stops wsJx4a65c0 := goodIn_r _ [69, 70, 71] (by decide +kernel) (by decide +kernel)
set_option maxRecDepth 20000 in
theorem ggL_stops_X3_stops_c6 : GoodIn wsL_stops wsX00 := goodIn_r _ [72, 73, 74, 75, 76, 77, 78, 79, 80, 81, 82, 83, 84, 85, 86, 87, 88, 89, 90] (by decide +kernel) (by decide +kernel)
set_option maxRecDepth 20000 in
theorem ggL_stops_X3_stops : GoodIn wsL_stops wsX3_stops := goodIn_ca (tw_gc ggL_stops_X3_stops_c0 (goodIn_app (goodIn_app (goodIn_app (goodIn_app ggL_stops_X3_stops_c1 (goodIn_app ggL_stops_X3_stops_c2 ggL_stops_X3_stops_c3)) ggL_stops_X3_stops_c4) ggL_stops_X3_stops_c5) ggL_stops_X3_stops_c6)) (goodIn_sub (fun _ h => List.mem_cons_of_mem _ (List.mem_append_right _ h)) (by decide +kernel))
set_option maxRecDepth 20000 in
theorem gL_stops_X3_stops : GoodIn wsL_stops (wsV RL 70 RX3 yX3_stops wsX3_stops) := goodIn_app (goodIn_of _ (by decide +kernel)) ggL_stops_X3_stops
theorem dL_stops_4 : decode cL_stops 4 = .ok (.invokevirtual 70, 3) := by decide +kernel
theorem dL_stops_12 : decode cL_stops 12 = .ok (.astore_n 3, 1) := by decide +kernel
theorem dL_stops_13 : decode cL_stops 13 = .ok (.iconst 1, 1) := by decide +kernel
theorem dL_stops_14 : decode cL_stops 14 = .ok (.ireturn, 1) := by decide +kernel
theorem dL_timeFor_0 : decode cL_timeFor 0 = .ok (.aload 4, 2) := by decide +kernel
theorem dL_timeFor_2 : decode cL_timeFor 2 = .ok (.iconst 0, 1) := by decide +kernel
theorem dL_timeFor_3 : decode cL_timeFor 3 = .ok (.aload_n 0, 1) := by decide +kernel
theorem dL_timeFor_4 : decode cL_timeFor 4 = .ok (.iload_n 1, 1) := by decide +kernel
theorem dL_timeFor_5 : decode cL_timeFor 5 = .ok (.iload_n 2, 1) := by decide +kernel
theorem dL_timeFor_6 : decode cL_timeFor 6 = .ok (.iload_n 3, 1) := by decide +kernel
set_option maxRecDepth 20000 in
theorem ggL_timeFor_X3_timeFor_c0 : GoodIn wsL_timeFor [Cond.code yX3_timeFor cX3_timeFor 5 (some .int)] := goodIn_r _ [7] (by decide +kernel) (by decide +kernel)
set_option maxRecDepth 20000 in
theorem ggL_timeFor_X3_timeFor_c1 : GoodIn wsL_timeFor wsX3_timeFor_r1 := goodIn_r _ [8, 9, 10, 6, 11, 12, 13, 14, 15, 16, 17, 18, 19, 20, 21, 22, 23, 24, 25, 26, 27, 28, 29, 30] (by decide +kernel) (by decide +kernel)
set_option maxRecDepth 20000 in
theorem ggL_timeFor_X3_timeFor_c2 : GoodIn wsL_timeFor wsX3_timeFor_r2 := goodIn_r _ [31, 32, 33, 34, 35, 36, 37, 38, 39, 40, 41, 42, 43, 44, 45, 46, 47, 48, 49, 50, 51, 52, 53, 54] (by decide +kernel) (by decide +kernel)
set_option maxRecDepth 20000 in
theorem ggL_timeFor_X3_timeFor_c3 : GoodIn wsL_timeFor wsX3_timeFor_r3 := goodIn_r _ [55, 56, 57, 58, 59, 60, 61, 62, 63, 64, 65, 66, 67, 68, 69, 70, 71, 72, 73, 74, 75, 76, 77, 78] (by decide +kernel) (by decide +kernel)
set_option maxRecDepth 20000 in
theorem ggL_timeFor_X3_timeFor_c4 : GoodIn wsL_timeFor wsX3_timeFor_r4 := goodIn_r _ [79, 80, 81, 82, 83, 84, 85] (by decide +kernel) (by decide +kernel)
set_option maxRecDepth 20000 in
theorem ggL_timeFor_X3_timeFor_c5 : GoodIn wsL_timeFor wsX30 := goodIn_r _ [86, 87, 88, 89, 90, 91, 92, 93, 94, 95, 96, 97] (by decide +kernel) (by decide +kernel)
set_option maxRecDepth 20000 in
theorem ggL_timeFor_X3_timeFor_c6 : GoodIn wsL_timeFor wsJx4a65c0 := goodIn_r _ [98, 99, 100] (by decide +kernel) (by decide +kernel)
set_option maxRecDepth 20000 in
theorem ggL_timeFor_X3_timeFor_c7 : GoodIn wsL_timeFor wsX00 := goodIn_r _ [101, 102, 103, 104, 105, 106, 107, 108, 109, 110, 111, 112, 113, 114, 115, 116, 117, 118, 119] (by decide +kernel) (by decide +kernel)
set_option maxRecDepth 20000 in
theorem ggL_timeFor_X3_timeFor : GoodIn wsL_timeFor wsX3_timeFor := goodIn_ca (goodIn_ca (tw_gc ggL_timeFor_X3_timeFor_c0 (goodIn_app (goodIn_app (goodIn_app (goodIn_app ggL_timeFor_X3_timeFor_c1 (goodIn_app ggL_timeFor_X3_timeFor_c2 (goodIn_app ggL_timeFor_X3_timeFor_c3 ggL_timeFor_X3_timeFor_c4))) ggL_timeFor_X3_timeFor_c5) ggL_timeFor_X3_timeFor_c6) ggL_timeFor_X3_timeFor_c7)) (goodIn_sub (fun _ h => List.mem_cons_of_mem _ (List.mem_append_left _ (List.mem_append_right _ h))) (by decide +kernel))) (goodIn_sub (fun _ h => List.mem_cons_of_mem _ (List.mem_append_right _ h)) (by decide +kernel))
set_option maxRecDepth 20000 in
theorem gL_timeFor_X3_timeFor : GoodIn wsL_timeFor (wsV RL 79 RX3 yX3_timeFor wsX3_timeFor) := goodIn_app (goodIn_of _ (by decide +kernel)) ggL_timeFor_X3_timeFor
theorem dL_timeFor_7 : decode cL_timeFor 7 = .ok (.invokevirtual 79, 3) := by decide +kernel
theorem dL_timeFor_15 : decode cL_timeFor 15 = .ok (.astore 5, 2) := by decide +kernel
theorem dL_timeFor_17 : decode cL_timeFor 17 = .ok (.iconst 1, 1) := by decide +kernel
theorem dL_timeFor_18 : decode cL_timeFor 18 = .ok (.ireturn, 1) := by decide +kernel
theorem dL_priceFor_0 : decode cL_priceFor 0 = .ok (.aload 4, 2) := by decide +kernel
theorem dL_priceFor_2 : decode cL_priceFor 2 = .ok (.iconst 0, 1) := by decide +kernel
theorem dL_priceFor_3 : decode cL_priceFor 3 = .ok (.aload_n 0, 1) := by decide +kernel
theorem dL_priceFor_4 : decode cL_priceFor 4 = .ok (.iload_n 1, 1) := by decide +kernel
theorem dL_priceFor_5 : decode cL_priceFor 5 = .ok (.iload_n 2, 1) := by decide +kernel
theorem dL_priceFor_6 : decode cL_priceFor 6 = .ok (.iload_n 3, 1) := by decide +kernel
set_option maxRecDepth 20000 in
theorem ggL_priceFor_X3_priceFor_c0 : GoodIn wsL_priceFor [Cond.code yX3_priceFor cX3_priceFor 5 (some .int)] := goodIn_r _ [7] (by decide +kernel) (by decide +kernel)
set_option maxRecDepth 20000 in
theorem ggL_priceFor_X3_priceFor_c1 : GoodIn wsL_priceFor wsX3_priceFor_r1 := goodIn_r _ [8, 9, 10, 6, 11, 12, 13, 14, 15, 16, 17, 18, 19, 20, 21, 22, 23, 24, 25, 26, 27, 28, 29, 30] (by decide +kernel) (by decide +kernel)
set_option maxRecDepth 20000 in
theorem ggL_priceFor_X3_priceFor_c2 : GoodIn wsL_priceFor wsX3_priceFor_r2 := goodIn_r _ [31, 32, 33, 34, 35, 36, 37, 38, 39, 40, 41, 42, 43, 44, 45, 46, 47, 48, 49, 50, 51, 52, 53, 54] (by decide +kernel) (by decide +kernel)
set_option maxRecDepth 20000 in
theorem ggL_priceFor_X3_priceFor_c3 : GoodIn wsL_priceFor wsX3_priceFor_r3 := goodIn_r _ [55, 56, 57, 58, 59, 60, 61, 62, 63, 64, 65, 66, 67, 68, 69, 70, 71, 72, 73, 74, 75, 76, 77, 78] (by decide +kernel) (by decide +kernel)
set_option maxRecDepth 20000 in
theorem ggL_priceFor_X3_priceFor_c4 : GoodIn wsL_priceFor wsX3_priceFor_r4 := goodIn_r _ [79, 80, 81, 82, 83, 84, 85, 86, 87, 88, 89, 90, 91, 92, 93, 94] (by decide +kernel) (by decide +kernel)
set_option maxRecDepth 20000 in
theorem ggL_priceFor_X3_priceFor_c5 : GoodIn wsL_priceFor wsX30 := goodIn_r _ [95, 96, 97, 98, 99, 100, 101, 102, 103, 104, 105, 106] (by decide +kernel) (by decide +kernel)
set_option maxRecDepth 20000 in
theorem ggL_priceFor_X3_priceFor_c6 : GoodIn wsL_priceFor wsJx4a65c0 := goodIn_r _ [107, 108, 109] (by decide +kernel) (by decide +kernel)
set_option maxRecDepth 20000 in
theorem ggL_priceFor_X3_priceFor_c7 : GoodIn wsL_priceFor wsX00 := goodIn_r _ [110, 111, 112, 113, 114, 115, 116, 117, 118, 119, 120, 121, 122, 123, 124, 125, 126, 127, 128] (by decide +kernel) (by decide +kernel)
set_option maxRecDepth 20000 in
theorem ggL_priceFor_X3_priceFor : GoodIn wsL_priceFor wsX3_priceFor := goodIn_ca (goodIn_ca (tw_gc ggL_priceFor_X3_priceFor_c0 (goodIn_app (goodIn_app (goodIn_app (goodIn_app ggL_priceFor_X3_priceFor_c1 (goodIn_app ggL_priceFor_X3_priceFor_c2 (goodIn_app ggL_priceFor_X3_priceFor_c3 ggL_priceFor_X3_priceFor_c4))) ggL_priceFor_X3_priceFor_c5) ggL_priceFor_X3_priceFor_c6) ggL_priceFor_X3_priceFor_c7)) (goodIn_sub (fun _ h => List.mem_cons_of_mem _ (List.mem_append_left _ (List.mem_append_right _ h))) (by decide +kernel))) (goodIn_sub (fun _ h => List.mem_cons_of_mem _ (List.mem_append_right _ h)) (by decide +kernel))
set_option maxRecDepth 20000 in
theorem gL_priceFor_X3_priceFor : GoodIn wsL_priceFor (wsV RL 83 RX3 yX3_priceFor wsX3_priceFor) := goodIn_app (goodIn_of _ (by decide +kernel)) ggL_priceFor_X3_priceFor
theorem dL_priceFor_7 : decode cL_priceFor 7 = .ok (.invokevirtual 83, 3) := by decide +kernel
theorem dL_priceFor_15 : decode cL_priceFor 15 = .ok (.astore 5, 2) := by decide +kernel
theorem dL_priceFor_17 : decode cL_priceFor 17 = .ok (.iconst 1, 1) := by decide +kernel
theorem dL_priceFor_18 : decode cL_priceFor 18 = .ok (.ireturn, 1) := by decide +kernel
theorem dL_fail_0 : decode cL_fail 0 = .ok (.aload_n 3, 1) := by decide +kernel
theorem dL_fail_1 : decode cL_fail 1 = .ok (.iconst 0, 1) := by decide +kernel
theorem dL_fail_2 : decode cL_fail 2 = .ok (.aload_n 0, 1) := by decide +kernel
theorem dL_fail_3 : decode cL_fail 3 = .ok (.iload_n 1, 1) := by decide +kernel
theorem dL_fail_4 : decode cL_fail 4 = .ok (.iload_n 2, 1) := by decide +kernel
set_option maxRecDepth 20000 in
theorem ggL_fail_X3_fail_c0 : GoodIn wsL_fail [Cond.code yX3_fail cX3_fail 5 (some .boolean)] := goodIn_r _ [6] (by decide +kernel) (by decide +kernel)
set_option maxRecDepth 20000 in
theorem ggL_fail_X3_fail_c1 : GoodIn wsL_fail wsX3_fail_r1 := goodIn_r _ [7, 8, 9, 10, 5, 11, 12, 13, 14, 15, 16, 17, 18, 19, 20, 21, 22, 23, 24, 25, 26, 27, 28, 29] (by decide +kernel) (by decide +kernel)
set_option maxRecDepth 20000 in
theorem ggL_fail_X3_fail_c2 : GoodIn wsL_fail wsX3_fail_r2 := goodIn_r _ [30, 31, 32, 33, 34, 35, 36, 37, 38, 39, 40, 41, 42, 43, 44, 45] (by decide +kernel) (by decide +kernel)
set_option maxRecDepth 20000 in
theorem ggL_fail_X3_fail_c3 : GoodIn wsL_fail wsX00 := goodIn_r _ [46, 47, 48, 49, 50, 51, 52, 53, 54, 55, 56, 57, 58, 59, 60, 61, 62, 63, 64] (by decide +kernel) (by decide +kernel)
set_option maxRecDepth 20000 in
theorem ggL_fail_X3_fail_c4 : GoodIn wsL_fail wsX30 := goodIn_r _ [65, 66, 67, 68, 69, 70, 71, 72, 73, 74, 75, 76] (by decide +kernel) (by decide +kernel)
set_option maxRecDepth 20000 in
theorem ggL_fail_X3_fail_c5 : GoodIn wsL_fail wsJx4a65c0 := goodIn_r _ [77, 78, 79] (by decide +kernel) (by decide +kernel)
set_option maxRecDepth 20000 in
theorem ggL_fail_X3_fail : GoodIn wsL_fail wsX3_fail := goodIn_ca (tw_gc ggL_fail_X3_fail_c0 (goodIn_app (goodIn_app (goodIn_app (goodIn_app ggL_fail_X3_fail_c1 ggL_fail_X3_fail_c2) ggL_fail_X3_fail_c3) ggL_fail_X3_fail_c4) ggL_fail_X3_fail_c5)) (goodIn_sub (fun _ h => List.mem_cons_of_mem _ (List.mem_append_right _ h)) (by decide +kernel))
set_option maxRecDepth 20000 in
theorem gL_fail_X3_fail : GoodIn wsL_fail (wsV RL 86 RX3 yX3_fail wsX3_fail) := goodIn_app (goodIn_of _ (by decide +kernel)) ggL_fail_X3_fail
theorem dL_fail_5 : decode cL_fail 5 = .ok (.invokevirtual 86, 3) := by decide +kernel
theorem dL_fail_20 : decode cL_fail 20 = .ok (.astore 4, 2) := by decide +kernel
theorem dL_fail_22 : decode cL_fail 22 = .ok (.iconst 1, 1) := by decide +kernel
theorem dL_fail_23 : decode cL_fail 23 = .ok (.ireturn, 1) := by decide +kernel
theorem dL_state_0 : decode cL_state 0 = .ok (.aload_n 2, 1) := by decide +kernel
theorem dL_state_1 : decode cL_state 1 = .ok (.iconst 0, 1) := by decide +kernel
theorem dL_state_2 : decode cL_state 2 = .ok (.aload_n 0, 1) := by decide +kernel
theorem dL_state_3 : decode cL_state 3 = .ok (.iload_n 1, 1) := by decide +kernel
set_option maxRecDepth 20000 in
theorem ggL_state_X3_state : GoodIn wsL_state wsX3_state := goodIn_ca (goodIn_r _ [6, 7, 8, 9, 10, 5, 11, 12, 13, 14, 15, 16, 17, 18, 19, 20, 21, 22, 23, 24, 25, 26, 27, 28, 29, 30, 31, 32, 33, 34, 35, 36, 37, 38, 39, 40, 41, 42, 43, 44, 45, 46, 47, 48, 49, 50, 51, 52, 53, 54, 55, 56, 57, 58, 59, 60] (by decide +kernel) (by decide +kernel)) (goodIn_sub (fun _ h => List.mem_cons_of_mem _ (List.mem_append_right _ h)) (by decide +kernel))
set_option maxRecDepth 20000 in
theorem gL_state_X3_state : GoodIn wsL_state (wsV RL 41 RX3 yX3_state wsX3_state) := goodIn_app (goodIn_of _ (by decide +kernel)) ggL_state_X3_state
theorem dL_state_4 : decode cL_state 4 = .ok (.invokevirtual 41, 3) := by decide +kernel
theorem dL_state_12 : decode cL_state 12 = .ok (.astore_n 3, 1) := by decide +kernel
theorem dL_state_13 : decode cL_state 13 = .ok (.iconst 1, 1) := by decide +kernel
theorem dL_state_14 : decode cL_state 14 = .ok (.ireturn, 1) := by decide +kernel
theorem dL_placeOf_0 : decode cL_placeOf 0 = .ok (.aload_n 2, 1) := by decide +kernel
theorem dL_placeOf_1 : decode cL_placeOf 1 = .ok (.iconst 0, 1) := by decide +kernel
theorem dL_placeOf_2 : decode cL_placeOf 2 = .ok (.aload_n 0, 1) := by decide +kernel
theorem dL_placeOf_3 : decode cL_placeOf 3 = .ok (.iload_n 1, 1) := by decide +kernel
set_option maxRecDepth 20000 in
theorem ggL_placeOf_X3_placeOf : GoodIn wsL_placeOf wsX3_placeOf := goodIn_ca (goodIn_r _ [6, 7, 8, 9, 10, 11, 12, 5, 13, 14, 15, 16, 17, 18, 19, 20, 21, 22, 23, 24, 25, 26, 27, 28, 29, 30, 31, 32, 33, 34, 35, 36, 37, 38, 39, 40, 41, 42, 43, 44, 45, 46, 47, 48, 49, 50, 51, 52, 53, 54, 55, 56, 57, 58, 59, 60, 61, 62] (by decide +kernel) (by decide +kernel)) (goodIn_sub (fun _ h => List.mem_cons_of_mem _ (List.mem_append_right _ h)) (by decide +kernel))
set_option maxRecDepth 20000 in
theorem gL_placeOf_X3_placeOf : GoodIn wsL_placeOf (wsV RL 45 RX3 yX3_placeOf wsX3_placeOf) := goodIn_app (goodIn_of _ (by decide +kernel)) ggL_placeOf_X3_placeOf
theorem dL_placeOf_4 : decode cL_placeOf 4 = .ok (.invokevirtual 45, 3) := by decide +kernel
theorem dL_placeOf_12 : decode cL_placeOf 12 = .ok (.astore_n 3, 1) := by decide +kernel
theorem dL_placeOf_13 : decode cL_placeOf 13 = .ok (.iconst 1, 1) := by decide +kernel
theorem dL_placeOf_14 : decode cL_placeOf 14 = .ok (.ireturn, 1) := by decide +kernel
theorem dL_waited_0 : decode cL_waited 0 = .ok (.aload_n 2, 1) := by decide +kernel
theorem dL_waited_1 : decode cL_waited 1 = .ok (.iconst 0, 1) := by decide +kernel
theorem dL_waited_2 : decode cL_waited 2 = .ok (.aload_n 0, 1) := by decide +kernel
theorem dL_waited_3 : decode cL_waited 3 = .ok (.iload_n 1, 1) := by decide +kernel
set_option maxRecDepth 20000 in
theorem ggL_waited_X3_waited : GoodIn wsL_waited wsX3_waited := goodIn_ca (goodIn_r _ [6, 7, 8, 9, 10, 5, 11, 12, 13, 14, 15, 16, 17, 18, 19, 20, 21, 22, 23, 24, 25, 26, 27, 28, 29, 30, 31, 32, 33, 34, 35, 36, 37, 38, 39, 40, 41, 42, 43, 44, 45, 46, 47, 48, 49, 50, 51, 52, 53, 54, 55, 56, 57, 58, 59, 60] (by decide +kernel) (by decide +kernel)) (goodIn_sub (fun _ h => List.mem_cons_of_mem _ (List.mem_append_right _ h)) (by decide +kernel))
set_option maxRecDepth 20000 in
theorem gL_waited_X3_waited : GoodIn wsL_waited (wsV RL 48 RX3 yX3_waited wsX3_waited) := goodIn_app (goodIn_of _ (by decide +kernel)) ggL_waited_X3_waited
theorem dL_waited_4 : decode cL_waited 4 = .ok (.invokevirtual 48, 3) := by decide +kernel
theorem dL_waited_12 : decode cL_waited 12 = .ok (.astore_n 3, 1) := by decide +kernel
theorem dL_waited_13 : decode cL_waited 13 = .ok (.iconst 1, 1) := by decide +kernel
theorem dL_waited_14 : decode cL_waited 14 = .ok (.ireturn, 1) := by decide +kernel
theorem dL_pass_0 : decode cL_pass 0 = .ok (.aload_n 2, 1) := by decide +kernel
theorem dL_pass_1 : decode cL_pass 1 = .ok (.iconst 0, 1) := by decide +kernel
theorem dL_pass_2 : decode cL_pass 2 = .ok (.aload_n 0, 1) := by decide +kernel
theorem dL_pass_3 : decode cL_pass 3 = .ok (.iload_n 1, 1) := by decide +kernel
set_option maxRecDepth 20000 in
theorem ggL_pass_X3_pass_c0 : GoodIn wsL_pass [Cond.code yX3_pass cX3_pass 3 (some .int)] := goodIn_r _ [6] (by decide +kernel) (by decide +kernel)
set_option maxRecDepth 20000 in
theorem ggL_pass_X3_pass_c1 : GoodIn wsL_pass wsX3_pass_r1 := goodIn_r _ [7, 8, 9, 10, 11, 12, 13, 14, 5, 15, 16, 17, 18, 19, 20, 21, 22, 23, 24, 25, 26, 27, 28, 29] (by decide +kernel) (by decide +kernel)
set_option maxRecDepth 20000 in
theorem ggL_pass_X3_pass_c2 : GoodIn wsL_pass wsX3_pass_r2 := goodIn_r _ [30, 31, 32, 33, 34, 35, 36, 37, 38, 39, 40, 41, 42, 43, 44, 45, 46, 47, 48, 49, 50, 51, 52, 53] (by decide +kernel) (by decide +kernel)
set_option maxRecDepth 20000 in
theorem ggL_pass_X3_pass_c3 : GoodIn wsL_pass wsX3_pass_r3 := goodIn_r _ [54, 55, 56, 57, 58, 59, 60, 61, 62, 63, 64, 65, 66, 67, 68, 69, 70, 71, 72, 73, 74, 75, 76, 77] (by decide +kernel) (by decide +kernel)
set_option maxRecDepth 20000 in
theorem ggL_pass_X3_pass_c4 : GoodIn wsL_pass wsX3_pass_r4 := goodIn_r _ [78, 79, 80, 81, 82, 83, 84, 85, 86, 87, 88, 89, 90, 91, 92, 93, 94, 95, 96, 97, 98, 99, 100, 101] (by decide +kernel) (by decide +kernel)
set_option maxRecDepth 20000 in
theorem ggL_pass_X3_pass_c5 : GoodIn wsL_pass wsX3_pass_r5 := goodIn_r _ [102, 103, 104, 105, 106, 107, 108, 109, 110, 111, 112, 113, 114, 115, 116, 117, 118, 119, 120, 121, 122, 123, 124, 125] (by decide +kernel) (by decide +kernel)
set_option maxRecDepth 20000 in
theorem ggL_pass_X3_pass_c6 : GoodIn wsL_pass wsX3_pass_r6 := goodIn_r _ [126, 127, 128, 129, 130, 131, 132, 133, 134, 135, 136, 137, 138, 139, 140, 141, 142, 143, 144, 145, 146, 147, 148, 149] (by decide +kernel) (by decide +kernel)
set_option maxRecDepth 20000 in
theorem ggL_pass_X3_pass_c7 : GoodIn wsL_pass wsX3_pass_r7 := goodIn_r _ [150, 151, 152, 153, 154, 155, 156, 157, 158, 159, 160, 161, 162, 163, 164, 165, 166, 167, 168, 169, 170, 171, 172, 173] (by decide +kernel) (by decide +kernel)
set_option maxRecDepth 20000 in
theorem ggL_pass_X3_pass_c8 : GoodIn wsL_pass wsX3_pass_r8 := goodIn_r _ [174, 175, 176, 177, 178, 179, 180, 181, 182, 183, 184, 185, 186, 187, 188, 189, 190, 191, 192, 193, 194, 195, 196, 197] (by decide +kernel) (by decide +kernel)
set_option maxRecDepth 20000 in
theorem ggL_pass_X3_pass_c9 : GoodIn wsL_pass wsX3_pass_r9 := goodIn_r _ [198, 199, 200, 201, 202, 203, 204, 205, 206, 207, 208, 209, 210, 211, 212, 213, 214, 215, 216, 217, 218, 219, 220, 221] (by decide +kernel) (by decide +kernel)
set_option maxRecDepth 20000 in
theorem ggL_pass_X3_pass_c10 : GoodIn wsL_pass wsX3_pass_r10 := goodIn_r _ [222, 223, 224, 225, 226, 227, 228, 229, 230, 231, 232, 233, 234, 235, 236, 237, 238, 239, 240, 241, 242, 243, 244, 245] (by decide +kernel) (by decide +kernel)
set_option maxRecDepth 20000 in
theorem ggL_pass_X3_pass_c11 : GoodIn wsL_pass wsX3_pass_r11 := goodIn_r _ [246, 247, 248, 249, 250, 251, 252, 253, 254, 255, 256, 257, 258, 259, 260, 261, 262, 263, 264, 265, 266, 267, 268, 269] (by decide +kernel) (by decide +kernel)
set_option maxRecDepth 20000 in
theorem ggL_pass_X3_pass_c12 : GoodIn wsL_pass wsX3_pass_r12 := goodIn_r _ [270, 271, 272, 273, 274, 275, 276, 277, 278, 279, 280, 281, 282, 283, 284, 285, 286, 287, 288, 289, 290, 291, 292, 293] (by decide +kernel) (by decide +kernel)
set_option maxRecDepth 20000 in
theorem ggL_pass_X3_pass_c13 : GoodIn wsL_pass wsX3_pass_r13 := goodIn_r _ [294, 295, 296, 297, 298, 299, 300, 301, 302, 303, 304, 305] (by decide +kernel) (by decide +kernel)
set_option maxRecDepth 20000 in
theorem ggL_pass_X3_pass_c14 : GoodIn wsL_pass wsX30 := goodIn_r _ [306, 307, 308, 309, 310, 311, 312, 313, 314, 315, 316, 317] (by decide +kernel) (by decide +kernel)
set_option maxRecDepth 20000 in
theorem ggL_pass_X3_pass_c15 : GoodIn wsL_pass wsX20 := goodIn_r _ [318, 319, 320, 321, 322, 323, 324] (by decide +kernel) (by decide +kernel)
set_option maxRecDepth 20000 in
theorem ggL_pass_X3_pass_c16 : GoodIn wsL_pass wsJx4a65c0 := goodIn_r _ [325, 326, 327] (by decide +kernel) (by decide +kernel)
set_option maxRecDepth 20000 in
theorem ggL_pass_X3_pass_c17 : GoodIn wsL_pass wsX00 := goodIn_r _ [328, 329, 330, 331, 332, 333, 334, 335, 336, 337, 338, 339, 340, 341, 342, 343, 344, 345, 346] (by decide +kernel) (by decide +kernel)
set_option maxRecDepth 20000 in
theorem ggL_pass_X3_pass_c18 : GoodIn wsL_pass wsX10 := goodIn_r _ [347, 348] (by decide +kernel) (by decide +kernel)
set_option maxRecDepth 20000 in
theorem ggL_pass_X3_pass : GoodIn wsL_pass wsX3_pass := goodIn_ca (goodIn_ca (goodIn_ca (tw_gc ggL_pass_X3_pass_c0 (goodIn_app (goodIn_app (goodIn_app (goodIn_app (goodIn_app (goodIn_app ggL_pass_X3_pass_c1 (goodIn_app ggL_pass_X3_pass_c2 (goodIn_app ggL_pass_X3_pass_c3 (goodIn_app ggL_pass_X3_pass_c4 (goodIn_app ggL_pass_X3_pass_c5 (goodIn_app ggL_pass_X3_pass_c6 (goodIn_app ggL_pass_X3_pass_c7 (goodIn_app ggL_pass_X3_pass_c8 (goodIn_app ggL_pass_X3_pass_c9 (goodIn_app ggL_pass_X3_pass_c10 (goodIn_app ggL_pass_X3_pass_c11 (goodIn_app ggL_pass_X3_pass_c12 ggL_pass_X3_pass_c13)))))))))))) ggL_pass_X3_pass_c14) ggL_pass_X3_pass_c15) ggL_pass_X3_pass_c16) ggL_pass_X3_pass_c17) ggL_pass_X3_pass_c18)) (goodIn_sub (fun _ h => List.mem_cons_of_mem _ (List.mem_append_left _ (List.mem_append_right _ h))) (by decide +kernel))) (goodIn_sub (fun _ h => List.mem_cons_of_mem _ (List.mem_append_right _ h)) (by decide +kernel))) (goodIn_sub (fun _ h => List.mem_cons_of_mem _ (List.mem_append_left _ (List.mem_append_left _ (List.mem_append_right _ h)))) (by decide +kernel))
set_option maxRecDepth 20000 in
theorem gL_pass_X3_pass : GoodIn wsL_pass (wsV RL 51 RX3 yX3_pass wsX3_pass) := goodIn_app (goodIn_of _ (by decide +kernel)) ggL_pass_X3_pass
theorem dL_pass_4 : decode cL_pass 4 = .ok (.invokevirtual 51, 3) := by decide +kernel
theorem dL_pass_12 : decode cL_pass 12 = .ok (.astore_n 3, 1) := by decide +kernel
theorem dL_pass_13 : decode cL_pass 13 = .ok (.iconst 1, 1) := by decide +kernel
theorem dL_pass_14 : decode cL_pass 14 = .ok (.ireturn, 1) := by decide +kernel
theorem dL_pass_7 : decode cL_pass 7 = .ok (.i2l, 1) := by decide +kernel
theorem dL_pass_8 : decode cL_pass 8 = .ok (.lastore, 1) := by decide +kernel
theorem dL_pass_9 : decode cL_pass 9 = .ok (.goto 6, 3) := by decide +kernel
theorem dL_pass_15 : decode cL_pass 15 = .ok (.iconst 0, 1) := by decide +kernel
theorem dL_pass_16 : decode cL_pass 16 = .ok (.ireturn, 1) := by decide +kernel
theorem dL_promised_0 : decode cL_promised 0 = .ok (.aload_n 3, 1) := by decide +kernel
theorem dL_promised_1 : decode cL_promised 1 = .ok (.iconst 0, 1) := by decide +kernel
theorem dL_promised_2 : decode cL_promised 2 = .ok (.aload_n 0, 1) := by decide +kernel
theorem dL_promised_3 : decode cL_promised 3 = .ok (.iload_n 1, 1) := by decide +kernel
theorem dL_promised_4 : decode cL_promised 4 = .ok (.iload_n 2, 1) := by decide +kernel
set_option maxRecDepth 20000 in
theorem ggL_promised_X3_promised_c0 : GoodIn wsL_promised [Cond.code yX3_promised cX3_promised 4 (some .int)] := goodIn_r _ [7] (by decide +kernel) (by decide +kernel)
set_option maxRecDepth 20000 in
theorem ggL_promised_X3_promised_c1 : GoodIn wsL_promised wsX3_promised_r1 := goodIn_r _ [8, 9, 10, 11, 12, 13, 14, 6, 15, 16, 17, 18, 19, 20, 21, 22, 23, 24, 25, 26, 27, 28, 29, 30] (by decide +kernel) (by decide +kernel)
set_option maxRecDepth 20000 in
theorem ggL_promised_X3_promised_c2 : GoodIn wsL_promised wsX3_promised_r2 := goodIn_r _ [31, 32, 33, 34, 35, 36, 37, 38, 39, 40, 41, 42, 43, 44, 45, 46, 47, 48, 49, 50, 51, 52, 53, 54] (by decide +kernel) (by decide +kernel)
set_option maxRecDepth 20000 in
theorem ggL_promised_X3_promised_c3 : GoodIn wsL_promised wsX3_promised_r3 := goodIn_r _ [55] (by decide +kernel) (by decide +kernel)
set_option maxRecDepth 20000 in
theorem ggL_promised_X3_promised_c4 : GoodIn wsL_promised wsX30 := goodIn_r _ [56, 57, 58, 59, 60, 61, 62, 63, 64, 65, 66, 67] (by decide +kernel) (by decide +kernel)
set_option maxRecDepth 20000 in
theorem ggL_promised_X3_promised_c5 : GoodIn wsL_promised wsJx4a65c0 := goodIn_r _ [68, 69, 70] (by decide +kernel) (by decide +kernel)
set_option maxRecDepth 20000 in
theorem ggL_promised_X3_promised_c6 : GoodIn wsL_promised wsX00 := goodIn_r _ [71, 72, 73, 74, 75, 76, 77, 78, 79, 80, 81, 82, 83, 84, 85, 86, 87, 88, 89] (by decide +kernel) (by decide +kernel)
set_option maxRecDepth 20000 in
theorem ggL_promised_X3_promised : GoodIn wsL_promised wsX3_promised := goodIn_ca (goodIn_ca (tw_gc ggL_promised_X3_promised_c0 (goodIn_app (goodIn_app (goodIn_app (goodIn_app ggL_promised_X3_promised_c1 (goodIn_app ggL_promised_X3_promised_c2 ggL_promised_X3_promised_c3)) ggL_promised_X3_promised_c4) ggL_promised_X3_promised_c5) ggL_promised_X3_promised_c6)) (goodIn_sub (fun _ h => List.mem_cons_of_mem _ (List.mem_append_left _ (List.mem_append_right _ h))) (by decide +kernel))) (goodIn_sub (fun _ h => List.mem_cons_of_mem _ (List.mem_append_right _ h)) (by decide +kernel))
set_option maxRecDepth 20000 in
theorem gL_promised_X3_promised : GoodIn wsL_promised (wsV RL 73 RX3 yX3_promised wsX3_promised) := goodIn_app (goodIn_of _ (by decide +kernel)) ggL_promised_X3_promised
theorem dL_promised_5 : decode cL_promised 5 = .ok (.invokevirtual 73, 3) := by decide +kernel
theorem dL_promised_13 : decode cL_promised 13 = .ok (.astore 4, 2) := by decide +kernel
theorem dL_promised_15 : decode cL_promised 15 = .ok (.iconst 1, 1) := by decide +kernel
theorem dL_promised_16 : decode cL_promised 16 = .ok (.ireturn, 1) := by decide +kernel
theorem dL_promised_17 : decode cL_promised 17 = .ok (.astore 4, 2) := by decide +kernel
theorem dL_promised_19 : decode cL_promised 19 = .ok (.iconst 2, 1) := by decide +kernel
theorem dL_promised_20 : decode cL_promised 20 = .ok (.ireturn, 1) := by decide +kernel
theorem dL_fire_0 : decode cL_fire 0 = .ok (.aload_n 2, 1) := by decide +kernel
theorem dL_fire_1 : decode cL_fire 1 = .ok (.iconst 0, 1) := by decide +kernel
theorem dL_fire_2 : decode cL_fire 2 = .ok (.aload_n 0, 1) := by decide +kernel
theorem dL_fire_3 : decode cL_fire 3 = .ok (.iload_n 1, 1) := by decide +kernel
set_option maxRecDepth 20000 in
theorem ggL_fire_X3_fire_c0 : GoodIn wsL_fire [Cond.code yX3_fire cX3_fire 5 (some .int)] := goodIn_r _ [6] (by decide +kernel) (by decide +kernel)
set_option maxRecDepth 20000 in
theorem ggL_fire_X3_fire_c1 : GoodIn wsL_fire wsX3_fire_r1 := goodIn_r _ [7, 8, 9, 10, 11, 12, 13, 5, 14, 15, 16, 17, 18, 19, 20, 21, 22, 23, 24, 25, 26, 27, 28, 29] (by decide +kernel) (by decide +kernel)
set_option maxRecDepth 20000 in
theorem ggL_fire_X3_fire_c2 : GoodIn wsL_fire wsX3_fire_r2 := goodIn_r _ [30, 31, 32, 33, 34, 35, 36, 37, 38, 39, 40, 41, 42, 43, 44, 45, 46, 47, 48, 49, 50, 51, 52, 53] (by decide +kernel) (by decide +kernel)
set_option maxRecDepth 20000 in
theorem ggL_fire_X3_fire_c3 : GoodIn wsL_fire wsX3_fire_r3 := goodIn_r _ [54, 55, 56, 57, 58, 59, 60, 61, 62] (by decide +kernel) (by decide +kernel)
set_option maxRecDepth 20000 in
theorem ggL_fire_X3_fire_c4 : GoodIn wsL_fire wsX30 := goodIn_r _ [63, 64, 65, 66, 67, 68, 69, 70, 71, 72, 73, 74] (by decide +kernel) (by decide +kernel)
set_option maxRecDepth 20000 in
theorem ggL_fire_X3_fire_c5 : GoodIn wsL_fire wsX00 := goodIn_r _ [75, 76, 77, 78, 79, 80, 81, 82, 83, 84, 85, 86, 87, 88, 89, 90, 91, 92, 93] (by decide +kernel) (by decide +kernel)
set_option maxRecDepth 20000 in
theorem ggL_fire_X3_fire_c6 : GoodIn wsL_fire wsJx4a65c0 := goodIn_r _ [94, 95, 96] (by decide +kernel) (by decide +kernel)
set_option maxRecDepth 20000 in
theorem ggL_fire_X3_fire : GoodIn wsL_fire wsX3_fire := goodIn_ca (tw_gc ggL_fire_X3_fire_c0 (goodIn_app (goodIn_app (goodIn_app (goodIn_app ggL_fire_X3_fire_c1 (goodIn_app ggL_fire_X3_fire_c2 ggL_fire_X3_fire_c3)) ggL_fire_X3_fire_c4) ggL_fire_X3_fire_c5) ggL_fire_X3_fire_c6)) (goodIn_sub (fun _ h => List.mem_cons_of_mem _ (List.mem_append_right _ h)) (by decide +kernel))
set_option maxRecDepth 20000 in
theorem gL_fire_X3_fire : GoodIn wsL_fire (wsV RL 90 RX3 yX3_fire wsX3_fire) := goodIn_app (goodIn_of _ (by decide +kernel)) ggL_fire_X3_fire
theorem dL_fire_4 : decode cL_fire 4 = .ok (.invokevirtual 90, 3) := by decide +kernel
theorem dL_fire_12 : decode cL_fire 12 = .ok (.astore_n 3, 1) := by decide +kernel
theorem dL_fire_13 : decode cL_fire 13 = .ok (.iconst 1, 1) := by decide +kernel
theorem dL_fire_14 : decode cL_fire 14 = .ok (.ireturn, 1) := by decide +kernel
theorem dL_fire_7 : decode cL_fire 7 = .ok (.i2l, 1) := by decide +kernel
theorem dL_fire_8 : decode cL_fire 8 = .ok (.lastore, 1) := by decide +kernel
theorem dL_fire_9 : decode cL_fire 9 = .ok (.goto 6, 3) := by decide +kernel
theorem dL_fire_15 : decode cL_fire 15 = .ok (.iconst 0, 1) := by decide +kernel
theorem dL_fire_16 : decode cL_fire 16 = .ok (.ireturn, 1) := by decide +kernel
theorem dL_quake_0 : decode cL_quake 0 = .ok (.aload_n 2, 1) := by decide +kernel
theorem dL_quake_1 : decode cL_quake 1 = .ok (.iconst 0, 1) := by decide +kernel
theorem dL_quake_2 : decode cL_quake 2 = .ok (.aload_n 0, 1) := by decide +kernel
theorem dL_quake_3 : decode cL_quake 3 = .ok (.iload_n 1, 1) := by decide +kernel
set_option maxRecDepth 20000 in
theorem ggL_quake_X3_quake : GoodIn wsL_quake wsX3_quake := goodIn_ca (goodIn_r _ [6, 7, 8, 9, 10, 11, 12, 13, 14, 15, 16, 17, 18, 19, 20, 21, 22, 23] (by decide +kernel) (by decide +kernel)) (goodIn_sub (fun _ h => List.mem_cons_of_mem _ (List.mem_append_right _ h)) (by decide +kernel))
set_option maxRecDepth 20000 in
theorem gL_quake_X3_quake : GoodIn wsL_quake (wsV RL 93 RX3 yX3_quake wsX3_quake) := goodIn_app (goodIn_of _ (by decide +kernel)) ggL_quake_X3_quake
theorem dL_quake_4 : decode cL_quake 4 = .ok (.invokevirtual 93, 3) := by decide +kernel
theorem dL_quake_12 : decode cL_quake 12 = .ok (.astore_n 3, 1) := by decide +kernel
theorem dL_quake_13 : decode cL_quake 13 = .ok (.iconst 1, 1) := by decide +kernel
theorem dL_quake_14 : decode cL_quake 14 = .ok (.ireturn, 1) := by decide +kernel
theorem dL_quake_7 : decode cL_quake 7 = .ok (.i2l, 1) := by decide +kernel
theorem dL_quake_8 : decode cL_quake 8 = .ok (.lastore, 1) := by decide +kernel
theorem dL_quake_9 : decode cL_quake 9 = .ok (.goto 6, 3) := by decide +kernel
theorem dL_quake_15 : decode cL_quake 15 = .ok (.iconst 0, 1) := by decide +kernel
theorem dL_quake_16 : decode cL_quake 16 = .ok (.ireturn, 1) := by decide +kernel
theorem dL_entryAt_0 : decode cL_entryAt 0 = .ok (.aload_n 2, 1) := by decide +kernel
theorem dL_entryAt_1 : decode cL_entryAt 1 = .ok (.iconst 0, 1) := by decide +kernel
theorem dL_entryAt_2 : decode cL_entryAt 2 = .ok (.aload_n 0, 1) := by decide +kernel
theorem dL_entryAt_3 : decode cL_entryAt 3 = .ok (.iload_n 1, 1) := by decide +kernel
set_option maxRecDepth 20000 in
theorem ggL_entryAt_X3_entryAt : GoodIn wsL_entryAt wsX3_entryAt := goodIn_ca (goodIn_ca (goodIn_r _ [6, 7, 8, 9, 10, 5, 11, 12, 13, 14, 15, 16, 17, 18, 19, 20, 21, 22, 23, 24, 25, 26, 27, 28, 29, 30, 31, 32, 33, 34, 35, 36, 37, 38] (by decide +kernel) (by decide +kernel)) (goodIn_sub (fun _ h => List.mem_cons_of_mem _ (List.mem_append_right _ h)) (by decide +kernel))) (goodIn_sub (fun _ h => List.mem_cons_of_mem _ (List.mem_append_left _ (List.mem_append_right _ h))) (by decide +kernel))
set_option maxRecDepth 20000 in
theorem gL_entryAt_X3_entryAt : GoodIn wsL_entryAt (wsV RL 96 RX3 yX3_entryAt wsX3_entryAt) := goodIn_app (goodIn_of _ (by decide +kernel)) ggL_entryAt_X3_entryAt
theorem dL_entryAt_4 : decode cL_entryAt 4 = .ok (.invokevirtual 96, 3) := by decide +kernel
theorem dL_entryAt_12 : decode cL_entryAt 12 = .ok (.astore_n 3, 1) := by decide +kernel
theorem dL_entryAt_13 : decode cL_entryAt 13 = .ok (.iconst 1, 1) := by decide +kernel
theorem dL_entryAt_14 : decode cL_entryAt 14 = .ok (.ireturn, 1) := by decide +kernel
theorem dL_entryOf_0 : decode cL_entryOf 0 = .ok (.aload_n 3, 1) := by decide +kernel
theorem dL_entryOf_1 : decode cL_entryOf 1 = .ok (.iconst 0, 1) := by decide +kernel
theorem dL_entryOf_2 : decode cL_entryOf 2 = .ok (.aload_n 0, 1) := by decide +kernel
theorem dL_entryOf_3 : decode cL_entryOf 3 = .ok (.iload_n 1, 1) := by decide +kernel
theorem dL_entryOf_4 : decode cL_entryOf 4 = .ok (.iload_n 2, 1) := by decide +kernel
set_option maxRecDepth 20000 in
theorem ggL_entryOf_X3_entryOf : GoodIn wsL_entryOf wsX3_entryOf := goodIn_ca (goodIn_ca (goodIn_ca (goodIn_r _ [7, 8, 9, 10, 11, 12, 13, 6, 14, 15, 16, 17, 18, 19, 20, 21, 22, 23, 24, 25, 26, 27, 28, 29, 30, 31, 32, 33, 34, 35, 36, 37, 38, 39, 40, 41, 42, 43, 44, 45, 46, 47, 48, 49] (by decide +kernel) (by decide +kernel)) (goodIn_sub (fun _ h => List.mem_cons_of_mem _ (List.mem_append_left _ (List.mem_append_right _ h))) (by decide +kernel))) (goodIn_sub (fun _ h => List.mem_cons_of_mem _ (List.mem_append_right _ h)) (by decide +kernel))) (goodIn_sub (fun _ h => List.mem_cons_of_mem _ (List.mem_append_left _ (List.mem_append_left _ (List.mem_append_right _ h)))) (by decide +kernel))
set_option maxRecDepth 20000 in
theorem gL_entryOf_X3_entryOf : GoodIn wsL_entryOf (wsV RL 99 RX3 yX3_entryOf wsX3_entryOf) := goodIn_app (goodIn_of _ (by decide +kernel)) ggL_entryOf_X3_entryOf
theorem dL_entryOf_5 : decode cL_entryOf 5 = .ok (.invokevirtual 99, 3) := by decide +kernel
theorem dL_entryOf_13 : decode cL_entryOf 13 = .ok (.astore 4, 2) := by decide +kernel
theorem dL_entryOf_15 : decode cL_entryOf 15 = .ok (.iconst 1, 1) := by decide +kernel
theorem dL_entryOf_16 : decode cL_entryOf 16 = .ok (.ireturn, 1) := by decide +kernel
theorem dL_people_0 : decode cL_people 0 = .ok (.aload_n 2, 1) := by decide +kernel
theorem dL_people_1 : decode cL_people 1 = .ok (.iconst 0, 1) := by decide +kernel
theorem dL_people_2 : decode cL_people 2 = .ok (.aload_n 0, 1) := by decide +kernel
theorem dL_people_3 : decode cL_people 3 = .ok (.iload_n 1, 1) := by decide +kernel
set_option maxRecDepth 20000 in
theorem ggL_people_X3_people : GoodIn wsL_people wsX3_people := goodIn_ca (goodIn_r _ [6, 7, 8, 9, 10, 11, 5, 12, 13, 14, 15, 16, 17, 18, 19, 20, 21, 22, 23, 24, 25, 26, 27, 28, 29, 30, 31, 32, 33, 34, 35, 36, 37, 38, 39, 40, 41, 42, 43, 44, 45, 46, 47, 48, 49, 50, 51, 52, 53, 54, 55, 56, 57, 58, 59, 60] (by decide +kernel) (by decide +kernel)) (goodIn_sub (fun _ h => List.mem_cons_of_mem _ (List.mem_append_right _ h)) (by decide +kernel))
set_option maxRecDepth 20000 in
theorem gL_people_X3_people : GoodIn wsL_people (wsV RL 103 RX3 yX3_people wsX3_people) := goodIn_app (goodIn_of _ (by decide +kernel)) ggL_people_X3_people
theorem dL_people_4 : decode cL_people 4 = .ok (.invokevirtual 103, 3) := by decide +kernel
theorem dL_people_12 : decode cL_people 12 = .ok (.astore_n 3, 1) := by decide +kernel
theorem dL_people_13 : decode cL_people 13 = .ok (.iconst 1, 1) := by decide +kernel
theorem dL_people_14 : decode cL_people 14 = .ok (.ireturn, 1) := by decide +kernel
theorem dL_people_7 : decode cL_people 7 = .ok (.i2l, 1) := by decide +kernel
theorem dL_people_8 : decode cL_people 8 = .ok (.lastore, 1) := by decide +kernel
theorem dL_people_9 : decode cL_people 9 = .ok (.goto 6, 3) := by decide +kernel
theorem dL_people_15 : decode cL_people 15 = .ok (.iconst 0, 1) := by decide +kernel
theorem dL_people_16 : decode cL_people 16 = .ok (.ireturn, 1) := by decide +kernel
theorem dL_comeShare_0 : decode cL_comeShare 0 = .ok (.aload_n 1, 1) := by decide +kernel
theorem dL_comeShare_1 : decode cL_comeShare 1 = .ok (.iconst 0, 1) := by decide +kernel
theorem dL_comeShare_2 : decode cL_comeShare 2 = .ok (.aload_n 0, 1) := by decide +kernel
set_option maxRecDepth 20000 in
theorem ggL_comeShare_X3_comeShare : GoodIn wsL_comeShare wsX3_comeShare := goodIn_ca (goodIn_r _ [6, 7, 8, 9, 10, 11, 12, 13, 14, 15, 16, 17, 18, 5, 19, 20, 21, 22, 23, 24, 25, 26, 27, 28, 29, 30, 31, 32, 33, 34, 35, 36, 37, 38, 39, 40, 41, 42, 43, 44, 45, 46, 47, 48, 49, 50, 51, 52, 53, 54, 55, 56, 57, 58, 59, 60] (by decide +kernel) (by decide +kernel)) (goodIn_sub (fun _ h => List.mem_cons_of_mem _ (List.mem_append_right _ h)) (by decide +kernel))
set_option maxRecDepth 20000 in
theorem gL_comeShare_X3_comeShare : GoodIn wsL_comeShare (wsV RL 107 RX3 yX3_comeShare wsX3_comeShare) := goodIn_app (goodIn_of _ (by decide +kernel)) ggL_comeShare_X3_comeShare
theorem dL_comeShare_3 : decode cL_comeShare 3 = .ok (.invokevirtual 107, 3) := by decide +kernel
theorem dL_comeShare_11 : decode cL_comeShare 11 = .ok (.astore_n 2, 1) := by decide +kernel
theorem dL_comeShare_12 : decode cL_comeShare 12 = .ok (.iconst 1, 1) := by decide +kernel
theorem dL_comeShare_13 : decode cL_comeShare 13 = .ok (.ireturn, 1) := by decide +kernel
theorem dL_meanWait_0 : decode cL_meanWait 0 = .ok (.aload_n 1, 1) := by decide +kernel
theorem dL_meanWait_1 : decode cL_meanWait 1 = .ok (.iconst 0, 1) := by decide +kernel
theorem dL_meanWait_2 : decode cL_meanWait 2 = .ok (.aload_n 0, 1) := by decide +kernel
set_option maxRecDepth 20000 in
theorem ggL_meanWait_X3_meanWait : GoodIn wsL_meanWait wsX3_meanWait := goodIn_ca (goodIn_r _ [6, 7, 8, 9, 10, 11, 12, 13, 14, 15, 16, 17, 18, 19, 20, 21, 22, 23, 24, 25, 26, 27, 28, 29, 30, 31, 32, 33, 34, 35, 36, 37, 38, 39, 40, 41, 42, 43, 44, 45, 46, 47, 48, 49, 50, 51, 52, 53, 54, 55, 56] (by decide +kernel) (by decide +kernel)) (goodIn_sub (fun _ h => List.mem_cons_of_mem _ (List.mem_append_right _ h)) (by decide +kernel))
set_option maxRecDepth 20000 in
theorem gL_meanWait_X3_meanWait : GoodIn wsL_meanWait (wsV RL 113 RX3 yX3_meanWait wsX3_meanWait) := goodIn_app (goodIn_of _ (by decide +kernel)) ggL_meanWait_X3_meanWait
theorem dL_meanWait_3 : decode cL_meanWait 3 = .ok (.invokevirtual 113, 3) := by decide +kernel
theorem dL_meanWait_10 : decode cL_meanWait 10 = .ok (.astore_n 2, 1) := by decide +kernel
theorem dL_meanWait_11 : decode cL_meanWait 11 = .ok (.iconst 1, 1) := by decide +kernel
theorem dL_meanWait_12 : decode cL_meanWait 12 = .ok (.ireturn, 1) := by decide +kernel
set_option maxHeartbeats 4000000 in
set_option maxRecDepth 100000 in
theorem c_L_setTop (l : Launch) (hst : l.stackTraces = false) (em kw kb : Nat) (D : va_G) (x : Nat) (p0 : Int32) (ou : Nat) (c1 : Nat) (ps1 : Nat) (lg : Nat) (cJ : ClassId) (sz : Nat) : Met l yL_setTop wsL_setTop ({ frames := 7, cells := 1, slots := 6, locals := 104 }) (va_Pc [.ref x, .int p0, .ref ou] (tw_Pre em kw kb D sz [(x, .inr (7, [.ref c1, .ref ps1, .ref lg, .int 9, .int 99, .int 0, .int 0, .int 0, .int ((-1)), .int 0, .int 0, .long 0])), (c1, .inr (3, [.int 0, .ref em, .int 0])), (ps1, .inr (3, [.int 0, .ref em, .int 0])), (ou, .inl (cJ, 1, .inr (.inl ((fun _ => 0)))))] [(cJ, .long)])) (va_Qi (fun (r : Int32) (u : tw_U) => ((((p0 < 4) ∨ (¬ p0 < 4 ∧ ¬ p0 ≤ 23))) ∧ r = 1 ∧ u = ([(ou, .inl (cJ, 1, .inr (.inl ((fun _ => 0)))))], [])) ∨ (((¬ p0 < 4 ∧ p0 ≤ 23)) ∧ r = 0 ∧ u = ([(ou, .inl (cJ, 1, .inr (.inl (vp_updL ((fun _ => 0)) (0 : Int32).toNatClampNeg 9))))], []))) (tw_B D (va_A [(x, .inr (7, [.ref c1, .ref ps1, .ref lg, .int 9, .int 99, .int 0, .int 0, .int 0, .int ((-1)), .int 0, .int 0, .long 0])), (c1, .inr (3, [.int 0, .ref em, .int 0])), (ps1, .inr (3, [.int 0, .ref em, .int 0])), (ou, .inl (cJ, 1, .inr (.inl ((fun _ => 0)))))] sz)) (va_A [(x, .inr (7, [.ref c1, .ref ps1, .ref lg, .int 9, .int 99, .int 0, .int 0, .int 0, .int ((-1)), .int 0, .int 0, .long 0])), (c1, .inr (3, [.int 0, .ref em, .int 0])), (ps1, .inr (3, [.int 0, .ref em, .int 0])), (ou, .inl (cJ, 1, .inr (.inl ((fun _ => 0)))))] sz)) 1 6 (va_A [(x, .inr (7, [.ref c1, .ref ps1, .ref lg, .int 9, .int 99, .int 0, .int 0, .int 0, .int ((-1)), .int 0, .int 0, .long 0])), (c1, .inr (3, [.int 0, .ref em, .int 0])), (ps1, .inr (3, [.int 0, .ref em, .int 0])), (ou, .inl (cJ, 1, .inr (.inl ((fun _ => 0)))))] sz) := by
  refine va_MetW (cc := cL_setTop) (maxL := 4) (ret := (some .int)) (hh := [(0, 9, 12, 13), (0, 9, 15, 15)]) (by decide) rfl ?_
  intro p e s m args below meth c s₁ B hml hv
  obtain ⟨rfl, hsz, hP, hK, hD0, hF⟩ := hv
  have hx := B.exec
  have hb := B.bytes
  have hr := B.returns
  have hts := atoms_spec (ws := wsL_setTop) B.pre
  have hown : s.vm.findClass RL = some m.cls := findClass_of_methodNamed B.named
  have hlocks := B.notSynchronized
  have htab := vx_table (x := yL_setTop) B (hts _ List.mem_cons_self)
  subst hsz
  have hD := hD0.self (sz := s.heap.size)
  generalize hAe : va_A [(x, .inr (7, [.ref c1, .ref ps1, .ref lg, .int 9, .int 99, .int 0, .int 0, .int 0, .int ((-1)), .int 0, .int 0, .long 0])), (c1, .inr (3, [.int 0, .ref em, .int 0])), (ps1, .inr (3, [.int 0, .ref em, .int 0])), (ou, .inl (cJ, 1, .inr (.inl ((fun _ => 0)))))] s.heap.size = A at hD hF ⊢
  have hA : ∀ q : Nat, s.heap.size ≤ q → A q := fun q h => by rw [← hAe]; exact Or.inr h
  have hS : va_S A s.heap s.heap [] := va_S.rf
  have hP : va_P D vwCl [(x, .inr (7, [.ref c1, .ref ps1, .ref lg, .int 9, .int 99, .int 0, .int 0, .int 0, .int ((-1)), .int 0, .int 0, .long 0])), (c1, .inr (3, [.int 0, .ref em, .int 0])), (ps1, .inr (3, [.int 0, .ref em, .int 0])), (ou, .inl (cJ, 1, .inr (.inl ((fun _ => 0)))))] s.heap := hP
  have hl := lv_entry ([.ref x, .int p0, .ref ou]) (n := 4) (Nat.le_of_ble_eq_true rfl)
  rw [lg_entry_eq]
  generalize (lg_sl ([.ref x, .int p0, .ref ou]) ++ List.replicate (4 - (lg_sl ([.ref x, .int p0, .ref ou])).length) Slot.unset).toArray = ls at hl ⊢
  have hl : lv_has ls 4 [(0, .ref x), (1, .int p0), (2, .ref ou)] := hl
  refine lv_aload_n hx hb dL_setTop_0 rfl (lv_at hl 2 rfl) ?_
  refine lv_iconst (v := 0) hx hb dL_setTop_1 (by decide) ?_
  refine lv_aload_n hx hb dL_setTop_2 rfl (lv_at hl 0 rfl) ?_
  refine lv_iload_n hx hb dL_setTop_3 rfl (lv_at hl 1 rfl) ?_
  have hPc := hP.sub (ws' := [(x, .inr (7, [.ref c1, .ref ps1, .ref lg, .int 9, .int 99, .int 0, .int 0, .int 0, .int ((-1)), .int 0, .int 0, .long 0])), (c1, .inr (3, [.int 0, .ref em, .int 0])), (ps1, .inr (3, [.int 0, .ref em, .int 0]))]) [0, 1, 2] rfl
  have hDc := hD.sub (ws' := [(x, .inr (7, [.ref c1, .ref ps1, .ref lg, .int 9, .int 99, .int 0, .int 0, .int 0, .int ((-1)), .int 0, .int 0, .long 0])), (c1, .inr (3, [.int 0, .ref em, .int 0])), (ps1, .inr (3, [.int 0, .ref em, .int 0]))]) [0, 1, 2] (by decide) rfl
  have hKc := hK.sub (tys' := []) [] rfl
  have hFc := va_free (wc := [(x, .inr (7, [.ref c1, .ref ps1, .ref lg, .int 9, .int 99, .int 0, .int 0, .int 0, .int ((-1)), .int 0, .int 0, .long 0])), (c1, .inr (3, [.int 0, .ref em, .int 0])), (ps1, .inr (3, [.int 0, .ref em, .int 0]))]) hD hS hA [0, 1, 2] rfl
  refine vx_calli (vx_runV (As := [.int p0]) (rest := [.int 0, .ref ou]) ⟨hx, hb, hml, hown, hts⟩ (c_X3_setTop l hst em kw kb D x p0 c1 ps1 lg _) (cwV 1 hts gL_setTop_X3_setTop rfl rfl rfl (by decide +kernel) ⟨(Nat.le_of_ble_eq_true rfl), (Nat.le_of_ble_eq_true rfl)⟩) (tw_preV hF hS hFc hPc hKc hDc (va_recv hKc hPc (ci := 7) (q0 := 0) rfl rfl)) rfl rfl hl.1 rfl (lv_room (Nat.le_of_ble_eq_true rfl)) dL_setTop_4 ⟨(Nat.le_of_ble_eq_true rfl), (Nat.le_of_ble_eq_true rfl)⟩) hS (fun q _ h => hFc q h) hFc (fun q _ h => hFc q h) (fun E ce q9 u t H locs ht hvm hw hB hz1 hk1 hS hce hcv hcl => ?_) (fun r u t H locs ht hvm hw hB hz1 hk1 hS => ?_)
  · obtain ⟨hE, hB⟩ := hB
    obtain ⟨g_1, rfl⟩ := hw
    subst hE
    obtain ⟨hP, hD, hK⟩ := tw_join (wr := [(ou, .inl (cJ, 1, .inr (.inl ((fun _ => 0)))))]) hP hD hK [0, 1, 2] [3] rfl rfl (by decide) (by decide) hk1 hFc ht hvm hB
    have hP : va_P D vwCl [(ou, .inl (cJ, 1, .inr (.inl ((fun _ => 0)))))] _ := hP
    have hD : va_D A [(ou, .inl (cJ, 1, .inr (.inl ((fun _ => 0)))))] := hD
    have hK : va_K D vwCl [(cJ, .long)] s := hK
    refine vx_catch (name := "java/lang/IllegalArgumentException") hown [] (ExceptionTableEntry.mk 0 9 12 13) [ExceptionTableEntry.mk 0 9 15 15] (by rw [htab]; rfl) (List.forall_mem_nil _) (by decide) (by decide) (hts (.classLink RL 13 "java/lang/IllegalArgumentException") (by decide +kernel)) (tw_cs hF (q := ("java/lang/IllegalArgumentException", "java/lang/IllegalArgumentException")) (by decide)) hce hcv hcl ?_
    refine W.widen (k := 1) (n := 6) (Nat.le_refl _) (Nat.le_refl _) ?_
    refine W.eq (g2 := F0 m 12 ls [.ref q9]) rfl ?_
    refine lv_astore_n (lv' := [(3, .ref q9), (0, .ref x), (1, .int p0), (2, .ref ou)]) hx hb dL_setTop_12 rfl hl (by decide) rfl (fun ls hl => ?_)
    refine lv_iconst (v := 1) hx hb dL_setTop_13 (by decide) ?_
    refine W.widen (k := 1) (n := 6) (Nat.le_of_ble_eq_true rfl) (Nat.le_of_ble_eq_true rfl) ?_
    have hP9 := hP.sub (ws' := [(ou, .inl (cJ, 1, .inr (.inl ((fun _ => 0)))))]) [0] rfl
    have hD9 := hD.sub (ws' := [(ou, .inl (cJ, 1, .inr (.inl ((fun _ => 0)))))]) [0] (by decide) rfl
    have hK9 := hK.sub (tys' := []) [] rfl
    exact W.iret (v := 1) hx hb hr (fun t ht hW => ⟨⟨1, ([(ou, .inl (cJ, 1, .inr (.inl ((fun _ => 0)))))], []), rfl, (Or.inl ⟨g_1, rfl, rfl⟩), by rw [ht]; exact hP9, va_K.moved hW.alike hK9, hD9⟩, hS.F ht⟩) hS.2.2 dL_setTop_14
  · obtain ⟨g_2, rfl, rfl⟩ := hw
    obtain ⟨hP, hD, hK⟩ := tw_join (wr := [(ou, .inl (cJ, 1, .inr (.inl ((fun _ => 0)))))]) hP hD hK [0, 1, 2] [3] rfl rfl (by decide) (by decide) hk1 hFc ht hvm hB
    have hP : va_P D vwCl [(ou, .inl (cJ, 1, .inr (.inl ((fun _ => 0)))))] _ := hP
    have hD : va_D A [(ou, .inl (cJ, 1, .inr (.inl ((fun _ => 0)))))] := hD
    have hK : va_K D vwCl [(cJ, .long)] s := hK
    refine W.widen (k := 1) (n := 6) (Nat.le_refl _) (Nat.le_refl _) ?_
    refine W.eq (g2 := F0 m 7 ls [.int 9, .int 0, .ref ou]) rfl ?_
    refine lv_i2l (v := 9) hx hb dL_setTop_7 (by decide) ?_
    refine va_last hx hb hK hP hD hS 0 0 rfl rfl (by unfold vp_in; decide) dL_setTop_8 (fun H locs hP hD hS => ?_)
    have hP : va_P D vwCl [(ou, .inl (cJ, 1, .inr (.inl (vp_updL ((fun _ => 0)) (0 : Int32).toNatClampNeg 9))))] _ := hP
    have hD : va_D A [(ou, .inl (cJ, 1, .inr (.inl (vp_updL ((fun _ => 0)) (0 : Int32).toNatClampNeg 9))))] := hD
    refine lv_goto (tgt := 18) hx hb dL_setTop_9 (by decide) ?_
    refine lv_iconst (v := 0) hx hb dL_setTop_18 (by decide) ?_
    refine W.widen (k := 1) (n := 6) (Nat.le_of_ble_eq_true rfl) (Nat.le_of_ble_eq_true rfl) ?_
    have hP9 := hP.sub (ws' := [(ou, .inl (cJ, 1, .inr (.inl (vp_updL ((fun _ => 0)) (0 : Int32).toNatClampNeg 9))))]) [0] rfl
    have hD9 := hD.sub (ws' := [(ou, .inl (cJ, 1, .inr (.inl (vp_updL ((fun _ => 0)) (0 : Int32).toNatClampNeg 9))))]) [0] (by decide) rfl
    have hK9 := hK.sub (tys' := []) [] rfl
    exact W.iret (v := 0) hx hb hr (fun t ht hW => ⟨⟨0, ([(ou, .inl (cJ, 1, .inr (.inl (vp_updL ((fun _ => 0)) (0 : Int32).toNatClampNeg 9))))], []), rfl, (Or.inr (⟨g_2, rfl, rfl⟩)), by rw [ht]; exact hP9, va_K.moved hW.alike hK9, hD9⟩, hS.F ht⟩) hS.2.2 dL_setTop_19
set_option maxHeartbeats 4000000 in
set_option maxRecDepth 100000 in
theorem c_L_car (l : Launch) (hst : l.stackTraces = false) (em kw kb : Nat) (D : va_G) (x : Nat) (p0 : Int32) (p1 : Int32) (p2 : Int32) (ou : Nat) (c1 : Nat) (ps1 : Nat) (lg : Nat) (cJ : ClassId) (sz : Nat) : Met l yL_car wsL_car ({ frames := 7, cells := 2, slots := 29, locals := 126 }) (va_Pc [.ref x, .int p0, .int p1, .int p2, .ref ou] (tw_Pre em kw kb D sz [(x, .inr (7, [.ref c1, .ref ps1, .ref lg, .int 9, .int 99, .int 0, .int 0, .int 0, .int ((-1)), .int 0, .int 0, .long 0])), (c1, .inr (3, [.int 0, .ref em, .int 0])), (ou, .inl (cJ, 1, .inr (.inl ((fun _ => 0)))))] [(cJ, .long)])) (va_Qi (fun (r : Int32) (u : tw_U) => ((((p0 < 0) ∨ (¬ p0 < 0 ∧ 3 ≤ p0) ∨ (¬ p0 < 0 ∧ ¬ 3 ≤ p0 ∧ ((p2 < 0) ∨ (¬ p2 < 0 ∧ 9 < p2))) ∨ (¬ p0 < 0 ∧ ¬ 3 ≤ p0 ∧ (¬ p2 < 0 ∧ ¬ 9 < p2) ∧ p1 < 200) ∨ (¬ p0 < 0 ∧ ¬ 3 ≤ p0 ∧ (¬ p2 < 0 ∧ ¬ 9 < p2) ∧ ¬ p1 < 200 ∧ 2000 < p1) ∨ (¬ p0 < 0 ∧ ¬ 3 ≤ p0 ∧ (¬ p2 < 0 ∧ ¬ 9 < p2) ∧ ¬ p1 < 200 ∧ ¬ 2000 < p1 ∧ ¬ (p1 - p1 / (2 : Int32) * (2 : Int32)) = 0))) ∧ r = 1 ∧ u = ([(ou, .inl (cJ, 1, .inr (.inl ((fun _ => 0)))))], [])) ∨ (((¬ p0 < 0 ∧ ¬ 3 ≤ p0 ∧ (¬ p2 < 0 ∧ ¬ 9 < p2) ∧ ¬ p1 < 200 ∧ ¬ 2000 < p1 ∧ (p1 - p1 / (2 : Int32) * (2 : Int32)) = 0)) ∧ r = 0 ∧ u = ([(ou, .inl (cJ, 1, .inr (.inl (vp_updL ((fun _ => 0)) (0 : Int32).toNatClampNeg 0))))], []))) (tw_B D (va_A [(x, .inr (7, [.ref c1, .ref ps1, .ref lg, .int 9, .int 99, .int 0, .int 0, .int 0, .int ((-1)), .int 0, .int 0, .long 0])), (c1, .inr (3, [.int 0, .ref em, .int 0])), (ou, .inl (cJ, 1, .inr (.inl ((fun _ => 0)))))] sz)) (va_A [(x, .inr (7, [.ref c1, .ref ps1, .ref lg, .int 9, .int 99, .int 0, .int 0, .int 0, .int ((-1)), .int 0, .int 0, .long 0])), (c1, .inr (3, [.int 0, .ref em, .int 0])), (ou, .inl (cJ, 1, .inr (.inl ((fun _ => 0)))))] sz)) 2 29 (va_A [(x, .inr (7, [.ref c1, .ref ps1, .ref lg, .int 9, .int 99, .int 0, .int 0, .int 0, .int ((-1)), .int 0, .int 0, .long 0])), (c1, .inr (3, [.int 0, .ref em, .int 0])), (ou, .inl (cJ, 1, .inr (.inl ((fun _ => 0)))))] sz) := by
  refine va_MetW (cc := cL_car) (maxL := 6) (ret := (some .int)) (hh := [(0, 12, 15, 13), (0, 12, 19, 21), (0, 12, 23, 15)]) (by decide) rfl ?_
  intro p e s m args below meth c s₁ B hml hv
  obtain ⟨rfl, hsz, hP, hK, hD0, hF⟩ := hv
  have hx := B.exec
  have hb := B.bytes
  have hr := B.returns
  have hts := atoms_spec (ws := wsL_car) B.pre
  have hown : s.vm.findClass RL = some m.cls := findClass_of_methodNamed B.named
  have hlocks := B.notSynchronized
  have htab := vx_table (x := yL_car) B (hts _ List.mem_cons_self)
  subst hsz
  have hD := hD0.self (sz := s.heap.size)
  generalize hAe : va_A [(x, .inr (7, [.ref c1, .ref ps1, .ref lg, .int 9, .int 99, .int 0, .int 0, .int 0, .int ((-1)), .int 0, .int 0, .long 0])), (c1, .inr (3, [.int 0, .ref em, .int 0])), (ou, .inl (cJ, 1, .inr (.inl ((fun _ => 0)))))] s.heap.size = A at hD hF ⊢
  have hA : ∀ q : Nat, s.heap.size ≤ q → A q := fun q h => by rw [← hAe]; exact Or.inr h
  have hS : va_S A s.heap s.heap [] := va_S.rf
  have hP : va_P D vwCl [(x, .inr (7, [.ref c1, .ref ps1, .ref lg, .int 9, .int 99, .int 0, .int 0, .int 0, .int ((-1)), .int 0, .int 0, .long 0])), (c1, .inr (3, [.int 0, .ref em, .int 0])), (ou, .inl (cJ, 1, .inr (.inl ((fun _ => 0)))))] s.heap := hP
  have hl := lv_entry ([.ref x, .int p0, .int p1, .int p2, .ref ou]) (n := 6) (Nat.le_of_ble_eq_true rfl)
  rw [lg_entry_eq]
  generalize (lg_sl ([.ref x, .int p0, .int p1, .int p2, .ref ou]) ++ List.replicate (6 - (lg_sl ([.ref x, .int p0, .int p1, .int p2, .ref ou])).length) Slot.unset).toArray = ls at hl ⊢
  have hl : lv_has ls 6 [(0, .ref x), (1, .int p0), (2, .int p1), (3, .int p2), (4, .ref ou)] := hl
  refine lv_aload hx hb dL_car_0 (lv_at hl 4 rfl) ?_
  refine lv_iconst (v := 0) hx hb dL_car_2 (by decide) ?_
  refine lv_aload_n hx hb dL_car_3 rfl (lv_at hl 0 rfl) ?_
  refine lv_iload_n hx hb dL_car_4 rfl (lv_at hl 1 rfl) ?_
  refine lv_iload_n hx hb dL_car_5 rfl (lv_at hl 2 rfl) ?_
  refine lv_iload_n hx hb dL_car_6 rfl (lv_at hl 3 rfl) ?_
  have hPc := hP.sub (ws' := [(x, .inr (7, [.ref c1, .ref ps1, .ref lg, .int 9, .int 99, .int 0, .int 0, .int 0, .int ((-1)), .int 0, .int 0, .long 0])), (c1, .inr (3, [.int 0, .ref em, .int 0]))]) [0, 1] rfl
  have hDc := hD.sub (ws' := [(x, .inr (7, [.ref c1, .ref ps1, .ref lg, .int 9, .int 99, .int 0, .int 0, .int 0, .int ((-1)), .int 0, .int 0, .long 0])), (c1, .inr (3, [.int 0, .ref em, .int 0]))]) [0, 1] (by decide) rfl
  have hKc := hK.sub (tys' := []) [] rfl
  have hFc := va_free (wc := [(x, .inr (7, [.ref c1, .ref ps1, .ref lg, .int 9, .int 99, .int 0, .int 0, .int 0, .int ((-1)), .int 0, .int 0, .long 0])), (c1, .inr (3, [.int 0, .ref em, .int 0]))]) hD hS hA [0, 1] rfl
  refine vx_calli (vx_runV (As := [.int p0, .int p1, .int p2]) (rest := [.int 0, .ref ou]) ⟨hx, hb, hml, hown, hts⟩ (c_X3_car l hst em kw kb D x p0 p1 p2 c1 ps1 lg _) (cwV 3 hts gL_car_X3_car rfl rfl rfl (by decide +kernel) ⟨(Nat.le_of_ble_eq_true rfl), (Nat.le_of_ble_eq_true rfl)⟩) (tw_preV hF hS hFc hPc hKc hDc (va_recv hKc hPc (ci := 7) (q0 := 0) rfl rfl)) rfl rfl hl.1 rfl (lv_room (Nat.le_of_ble_eq_true rfl)) dL_car_7 ⟨(Nat.le_of_ble_eq_true rfl), (Nat.le_of_ble_eq_true rfl)⟩) hS (fun q _ h => hFc q h) hFc (fun q _ h => hFc q h) (fun E ce q9 u t H locs ht hvm hw hB hz1 hk1 hS hce hcv hcl => ?_) (fun r u t H locs ht hvm hw hB hz1 hk1 hS => ?_)
  · obtain ⟨hE, hB⟩ := hB
    obtain ⟨g_1, rfl⟩ := hw
    subst hE
    obtain ⟨hP, hD, hK⟩ := tw_join (wr := [(ou, .inl (cJ, 1, .inr (.inl ((fun _ => 0)))))]) hP hD hK [0, 1] [2] rfl rfl (by decide) (by decide) hk1 hFc ht hvm hB
    have hP : va_P D vwCl [(ou, .inl (cJ, 1, .inr (.inl ((fun _ => 0)))))] _ := hP
    have hD : va_D A [(ou, .inl (cJ, 1, .inr (.inl ((fun _ => 0)))))] := hD
    have hK : va_K D vwCl [(cJ, .long)] s := hK
    refine vx_catch (name := "java/lang/IllegalArgumentException") hown [] (ExceptionTableEntry.mk 0 12 15 13) [ExceptionTableEntry.mk 0 12 19 21, ExceptionTableEntry.mk 0 12 23 15] (by rw [htab]; rfl) (List.forall_mem_nil _) (by decide) (by decide) (hts (.classLink RL 13 "java/lang/IllegalArgumentException") (by decide +kernel)) (tw_cs hF (q := ("java/lang/IllegalArgumentException", "java/lang/IllegalArgumentException")) (by decide)) hce hcv hcl ?_
    refine W.widen (k := 2) (n := 29) (Nat.le_refl _) (Nat.le_refl _) ?_
    refine W.eq (g2 := F0 m 15 ls [.ref q9]) rfl ?_
    refine lv_astore (lv' := [(5, .ref q9), (0, .ref x), (1, .int p0), (2, .int p1), (3, .int p2), (4, .ref ou)]) hx hb dL_car_15 hl (by decide) rfl (fun ls hl => ?_)
    refine lv_iconst (v := 1) hx hb dL_car_17 (by decide) ?_
    refine W.widen (k := 2) (n := 29) (Nat.le_of_ble_eq_true rfl) (Nat.le_of_ble_eq_true rfl) ?_
    have hP9 := hP.sub (ws' := [(ou, .inl (cJ, 1, .inr (.inl ((fun _ => 0)))))]) [0] rfl
    have hD9 := hD.sub (ws' := [(ou, .inl (cJ, 1, .inr (.inl ((fun _ => 0)))))]) [0] (by decide) rfl
    have hK9 := hK.sub (tys' := []) [] rfl
    exact W.iret (v := 1) hx hb hr (fun t ht hW => ⟨⟨1, ([(ou, .inl (cJ, 1, .inr (.inl ((fun _ => 0)))))], []), rfl, (Or.inl ⟨g_1, rfl, rfl⟩), by rw [ht]; exact hP9, va_K.moved hW.alike hK9, hD9⟩, hS.F ht⟩) hS.2.2 dL_car_18
  · obtain ⟨g_2, rfl, rfl⟩ := hw
    obtain ⟨hP, hD, hK⟩ := tw_join (wr := [(ou, .inl (cJ, 1, .inr (.inl ((fun _ => 0)))))]) hP hD hK [0, 1] [2] rfl rfl (by decide) (by decide) hk1 hFc ht hvm hB
    have hP : va_P D vwCl [(ou, .inl (cJ, 1, .inr (.inl ((fun _ => 0)))))] _ := hP
    have hD : va_D A [(ou, .inl (cJ, 1, .inr (.inl ((fun _ => 0)))))] := hD
    have hK : va_K D vwCl [(cJ, .long)] s := hK
    refine W.widen (k := 2) (n := 29) (Nat.le_refl _) (Nat.le_refl _) ?_
    refine W.eq (g2 := F0 m 10 ls [.int 0, .int 0, .ref ou]) rfl ?_
    refine lv_i2l (v := 0) hx hb dL_car_10 (by decide) ?_
    refine va_last hx hb hK hP hD hS 0 0 rfl rfl (by unfold vp_in; decide) dL_car_11 (fun H locs hP hD hS => ?_)
    have hP : va_P D vwCl [(ou, .inl (cJ, 1, .inr (.inl (vp_updL ((fun _ => 0)) (0 : Int32).toNatClampNeg 0))))] _ := hP
    have hD : va_D A [(ou, .inl (cJ, 1, .inr (.inl (vp_updL ((fun _ => 0)) (0 : Int32).toNatClampNeg 0))))] := hD
    refine lv_goto (tgt := 27) hx hb dL_car_12 (by decide) ?_
    refine lv_iconst (v := 0) hx hb dL_car_27 (by decide) ?_
    refine W.widen (k := 2) (n := 29) (Nat.le_of_ble_eq_true rfl) (Nat.le_of_ble_eq_true rfl) ?_
    have hP9 := hP.sub (ws' := [(ou, .inl (cJ, 1, .inr (.inl (vp_updL ((fun _ => 0)) (0 : Int32).toNatClampNeg 0))))]) [0] rfl
    have hD9 := hD.sub (ws' := [(ou, .inl (cJ, 1, .inr (.inl (vp_updL ((fun _ => 0)) (0 : Int32).toNatClampNeg 0))))]) [0] (by decide) rfl
    have hK9 := hK.sub (tys' := []) [] rfl
    exact W.iret (v := 0) hx hb hr (fun t ht hW => ⟨⟨0, ([(ou, .inl (cJ, 1, .inr (.inl (vp_updL ((fun _ => 0)) (0 : Int32).toNatClampNeg 0))))], []), rfl, (Or.inr (⟨g_2, rfl, rfl⟩)), by rw [ht]; exact hP9, va_K.moved hW.alike hK9, hD9⟩, hS.F ht⟩) hS.2.2 dL_car_28
set_option maxHeartbeats 4000000 in
set_option maxRecDepth 100000 in
theorem c_L_setDispatcher (l : Launch) (hst : l.stackTraces = false) (em kw kb : Nat) (D : va_G) (x : Nat) (p0 : Int32) (ou : Nat) (c1 : Nat) (ps1 : Nat) (lg : Nat) (cJ : ClassId) (hn0 : narrow .char (.int p0) = .int p0 ∧ fits .char (.int p0) = true) (sz : Nat) : Met l yL_setDispatcher wsL_setDispatcher ({ frames := 7, cells := 1, slots := 6, locals := 104 }) (va_Pc [.ref x, .int p0, .ref ou] (tw_Pre em kw kb D sz [(x, .inr (7, [.ref c1, .ref ps1, .ref lg, .int 9, .int 99, .int 0, .int 0, .int 0, .int ((-1)), .int 0, .int 0, .long 0])), (ou, .inl (cJ, 1, .inr (.inl ((fun _ => 0)))))] [(cJ, .long)])) (va_Qi (fun (r : Int32) (u : tw_U) => (((¬ p0 = 99 ∧ ¬ p0 = 122 ∧ ¬ p0 = 101 ∧ ¬ p0 = 97)) ∧ r = 1 ∧ u = ([(ou, .inl (cJ, 1, .inr (.inl ((fun _ => 0)))))], [])) ∨ ((((p0 = 99) ∨ (¬ p0 = 99 ∧ p0 = 122) ∨ (¬ p0 = 99 ∧ ¬ p0 = 122 ∧ p0 = 101) ∨ (¬ p0 = 99 ∧ ¬ p0 = 122 ∧ ¬ p0 = 101 ∧ p0 = 97))) ∧ r = 0 ∧ u = ([(ou, .inl (cJ, 1, .inr (.inl (vp_updL ((fun _ => 0)) (0 : Int32).toNatClampNeg 99))))], []))) (tw_B D (va_A [(x, .inr (7, [.ref c1, .ref ps1, .ref lg, .int 9, .int 99, .int 0, .int 0, .int 0, .int ((-1)), .int 0, .int 0, .long 0])), (ou, .inl (cJ, 1, .inr (.inl ((fun _ => 0)))))] sz)) (va_A [(x, .inr (7, [.ref c1, .ref ps1, .ref lg, .int 9, .int 99, .int 0, .int 0, .int 0, .int ((-1)), .int 0, .int 0, .long 0])), (ou, .inl (cJ, 1, .inr (.inl ((fun _ => 0)))))] sz)) 1 6 (va_A [(x, .inr (7, [.ref c1, .ref ps1, .ref lg, .int 9, .int 99, .int 0, .int 0, .int 0, .int ((-1)), .int 0, .int 0, .long 0])), (ou, .inl (cJ, 1, .inr (.inl ((fun _ => 0)))))] sz) := by
  refine va_MetW (cc := cL_setDispatcher) (maxL := 4) (ret := (some .int)) (hh := [(0, 9, 12, 13)]) (by decide) rfl ?_
  intro p e s m args below meth c s₁ B hml hv
  obtain ⟨rfl, hsz, hP, hK, hD0, hF⟩ := hv
  have hx := B.exec
  have hb := B.bytes
  have hr := B.returns
  have hts := atoms_spec (ws := wsL_setDispatcher) B.pre
  have hown : s.vm.findClass RL = some m.cls := findClass_of_methodNamed B.named
  have hlocks := B.notSynchronized
  have htab := vx_table (x := yL_setDispatcher) B (hts _ List.mem_cons_self)
  subst hsz
  have hD := hD0.self (sz := s.heap.size)
  generalize hAe : va_A [(x, .inr (7, [.ref c1, .ref ps1, .ref lg, .int 9, .int 99, .int 0, .int 0, .int 0, .int ((-1)), .int 0, .int 0, .long 0])), (ou, .inl (cJ, 1, .inr (.inl ((fun _ => 0)))))] s.heap.size = A at hD hF ⊢
  have hA : ∀ q : Nat, s.heap.size ≤ q → A q := fun q h => by rw [← hAe]; exact Or.inr h
  have hS : va_S A s.heap s.heap [] := va_S.rf
  have hP : va_P D vwCl [(x, .inr (7, [.ref c1, .ref ps1, .ref lg, .int 9, .int 99, .int 0, .int 0, .int 0, .int ((-1)), .int 0, .int 0, .long 0])), (ou, .inl (cJ, 1, .inr (.inl ((fun _ => 0)))))] s.heap := hP
  have hl := lv_entry ([.ref x, .int p0, .ref ou]) (n := 4) (Nat.le_of_ble_eq_true rfl)
  rw [lg_entry_eq]
  generalize (lg_sl ([.ref x, .int p0, .ref ou]) ++ List.replicate (4 - (lg_sl ([.ref x, .int p0, .ref ou])).length) Slot.unset).toArray = ls at hl ⊢
  have hl : lv_has ls 4 [(0, .ref x), (1, .int p0), (2, .ref ou)] := hl
  refine lv_aload_n hx hb dL_setDispatcher_0 rfl (lv_at hl 2 rfl) ?_
  refine lv_iconst (v := 0) hx hb dL_setDispatcher_1 (by decide) ?_
  refine lv_aload_n hx hb dL_setDispatcher_2 rfl (lv_at hl 0 rfl) ?_
  refine lv_iload_n hx hb dL_setDispatcher_3 rfl (lv_at hl 1 rfl) ?_
  have hPc := hP.sub (ws' := [(x, .inr (7, [.ref c1, .ref ps1, .ref lg, .int 9, .int 99, .int 0, .int 0, .int 0, .int ((-1)), .int 0, .int 0, .long 0]))]) [0] rfl
  have hDc := hD.sub (ws' := [(x, .inr (7, [.ref c1, .ref ps1, .ref lg, .int 9, .int 99, .int 0, .int 0, .int 0, .int ((-1)), .int 0, .int 0, .long 0]))]) [0] (by decide) rfl
  have hKc := hK.sub (tys' := []) [] rfl
  have hFc := va_free (wc := [(x, .inr (7, [.ref c1, .ref ps1, .ref lg, .int 9, .int 99, .int 0, .int 0, .int 0, .int ((-1)), .int 0, .int 0, .long 0]))]) hD hS hA [0] rfl
  refine vx_calli (vx_runV (As := [.int p0]) (rest := [.int 0, .ref ou]) ⟨hx, hb, hml, hown, hts⟩ (c_X3_setDispatcher l hst em kw kb D x p0 c1 ps1 lg (by assumption) _) (cwV 1 hts gL_setDispatcher_X3_setDispatcher rfl rfl rfl (by decide +kernel) ⟨(Nat.le_of_ble_eq_true rfl), (Nat.le_of_ble_eq_true rfl)⟩) (tw_preV hF hS hFc hPc hKc hDc (va_recv hKc hPc (ci := 7) (q0 := 0) rfl rfl)) rfl rfl hl.1 rfl (lv_room (Nat.le_of_ble_eq_true rfl)) dL_setDispatcher_4 ⟨(Nat.le_of_ble_eq_true rfl), (Nat.le_of_ble_eq_true rfl)⟩) hS (fun q _ h => hFc q h) hFc (fun q _ h => hFc q h) (fun E ce q9 u t H locs ht hvm hw hB hz1 hk1 hS hce hcv hcl => ?_) (fun r u t H locs ht hvm hw hB hz1 hk1 hS => ?_)
  · obtain ⟨hE, hB⟩ := hB
    obtain ⟨g_1, rfl⟩ := hw
    subst hE
    obtain ⟨hP, hD, hK⟩ := tw_join (wr := [(ou, .inl (cJ, 1, .inr (.inl ((fun _ => 0)))))]) hP hD hK [0] [1] rfl rfl (by decide) (by decide) hk1 hFc ht hvm hB
    have hP : va_P D vwCl [(ou, .inl (cJ, 1, .inr (.inl ((fun _ => 0)))))] _ := hP
    have hD : va_D A [(ou, .inl (cJ, 1, .inr (.inl ((fun _ => 0)))))] := hD
    have hK : va_K D vwCl [(cJ, .long)] s := hK
    refine vx_catch (name := "java/lang/IllegalArgumentException") hown [] (ExceptionTableEntry.mk 0 9 12 13) [] (by rw [htab]; rfl) (List.forall_mem_nil _) (by decide) (by decide) (hts (.classLink RL 13 "java/lang/IllegalArgumentException") (by decide +kernel)) (tw_cs hF (q := ("java/lang/IllegalArgumentException", "java/lang/IllegalArgumentException")) (by decide)) hce hcv hcl ?_
    refine W.widen (k := 1) (n := 6) (Nat.le_refl _) (Nat.le_refl _) ?_
    refine W.eq (g2 := F0 m 12 ls [.ref q9]) rfl ?_
    refine lv_astore_n (lv' := [(3, .ref q9), (0, .ref x), (1, .int p0), (2, .ref ou)]) hx hb dL_setDispatcher_12 rfl hl (by decide) rfl (fun ls hl => ?_)
    refine lv_iconst (v := 1) hx hb dL_setDispatcher_13 (by decide) ?_
    refine W.widen (k := 1) (n := 6) (Nat.le_of_ble_eq_true rfl) (Nat.le_of_ble_eq_true rfl) ?_
    have hP9 := hP.sub (ws' := [(ou, .inl (cJ, 1, .inr (.inl ((fun _ => 0)))))]) [0] rfl
    have hD9 := hD.sub (ws' := [(ou, .inl (cJ, 1, .inr (.inl ((fun _ => 0)))))]) [0] (by decide) rfl
    have hK9 := hK.sub (tys' := []) [] rfl
    exact W.iret (v := 1) hx hb hr (fun t ht hW => ⟨⟨1, ([(ou, .inl (cJ, 1, .inr (.inl ((fun _ => 0)))))], []), rfl, (Or.inl ⟨g_1, rfl, rfl⟩), by rw [ht]; exact hP9, va_K.moved hW.alike hK9, hD9⟩, hS.F ht⟩) hS.2.2 dL_setDispatcher_14
  · obtain ⟨g_2, rfl, rfl⟩ := hw
    obtain ⟨hP, hD, hK⟩ := tw_join (wr := [(ou, .inl (cJ, 1, .inr (.inl ((fun _ => 0)))))]) hP hD hK [0] [1] rfl rfl (by decide) (by decide) hk1 hFc ht hvm hB
    have hP : va_P D vwCl [(ou, .inl (cJ, 1, .inr (.inl ((fun _ => 0)))))] _ := hP
    have hD : va_D A [(ou, .inl (cJ, 1, .inr (.inl ((fun _ => 0)))))] := hD
    have hK : va_K D vwCl [(cJ, .long)] s := hK
    refine W.widen (k := 1) (n := 6) (Nat.le_refl _) (Nat.le_refl _) ?_
    refine W.eq (g2 := F0 m 7 ls [.int 99, .int 0, .ref ou]) rfl ?_
    refine lv_i2l (v := 99) hx hb dL_setDispatcher_7 (by decide) ?_
    refine va_last hx hb hK hP hD hS 0 0 rfl rfl (by unfold vp_in; decide) dL_setDispatcher_8 (fun H locs hP hD hS => ?_)
    have hP : va_P D vwCl [(ou, .inl (cJ, 1, .inr (.inl (vp_updL ((fun _ => 0)) (0 : Int32).toNatClampNeg 99))))] _ := hP
    have hD : va_D A [(ou, .inl (cJ, 1, .inr (.inl (vp_updL ((fun _ => 0)) (0 : Int32).toNatClampNeg 99))))] := hD
    refine lv_goto (tgt := 15) hx hb dL_setDispatcher_9 (by decide) ?_
    refine lv_iconst (v := 0) hx hb dL_setDispatcher_15 (by decide) ?_
    refine W.widen (k := 1) (n := 6) (Nat.le_of_ble_eq_true rfl) (Nat.le_of_ble_eq_true rfl) ?_
    have hP9 := hP.sub (ws' := [(ou, .inl (cJ, 1, .inr (.inl (vp_updL ((fun _ => 0)) (0 : Int32).toNatClampNeg 99))))]) [0] rfl
    have hD9 := hD.sub (ws' := [(ou, .inl (cJ, 1, .inr (.inl (vp_updL ((fun _ => 0)) (0 : Int32).toNatClampNeg 99))))]) [0] (by decide) rfl
    have hK9 := hK.sub (tys' := []) [] rfl
    exact W.iret (v := 0) hx hb hr (fun t ht hW => ⟨⟨0, ([(ou, .inl (cJ, 1, .inr (.inl (vp_updL ((fun _ => 0)) (0 : Int32).toNatClampNeg 99))))], []), rfl, (Or.inr (⟨g_2, rfl, rfl⟩)), by rw [ht]; exact hP9, va_K.moved hW.alike hK9, hD9⟩, hS.F ht⟩) hS.2.2 dL_setDispatcher_16
set_option maxHeartbeats 4000000 in
set_option maxRecDepth 100000 in
theorem c_L_come (l : Launch) (hst : l.stackTraces = false) (em kw kb : Nat) (D : va_G) (x : Nat) (p0 : Int32) (p1 : Int32) (p2 : Int32) (p3 : Int32) (p4 : Int32) (ou : Nat) (c1 : Nat) (ps1 : Nat) (lg : Nat) (cJ : ClassId) (sz : Nat) : Met l yL_come wsL_come ({ frames := 7, cells := 2, slots := 17, locals := 127 }) (va_Pc [.ref x, .int p0, .int p1, .int p2, .int p3, .int p4, .ref ou] (tw_Pre em kw kb D sz [(x, .inr (7, [.ref c1, .ref ps1, .ref lg, .int 9, .int 99, .int 0, .int 0, .int 0, .int ((-1)), .int 0, .int 0, .long 0])), (ps1, .inr (3, [.int 0, .ref em, .int 0])), (ou, .inl (cJ, 1, .inr (.inl ((fun _ => 0)))))] [(cJ, .long)])) (va_Qi (fun (r : Int32) (u : tw_U) => ((((((p0 < 0) ∨ (¬ p0 < 0 ∧ 9 < p0))) ∨ ((¬ p0 < 0 ∧ ¬ 9 < p0) ∧ ((p1 < 0) ∨ (¬ p1 < 0 ∧ 9 < p1))) ∨ ((¬ p0 < 0 ∧ ¬ 9 < p0) ∧ (¬ p1 < 0 ∧ ¬ 9 < p1) ∧ ¬ p0 = p1 ∧ p2 < 10) ∨ ((¬ p0 < 0 ∧ ¬ 9 < p0) ∧ (¬ p1 < 0 ∧ ¬ 9 < p1) ∧ ¬ p0 = p1 ∧ ¬ p2 < 10 ∧ 200 < p2) ∨ ((¬ p0 < 0 ∧ ¬ 9 < p0) ∧ (¬ p1 < 0 ∧ ¬ 9 < p1) ∧ ¬ p0 = p1 ∧ ¬ p2 < 10 ∧ ¬ 200 < p2 ∧ p3 < 1) ∨ ((¬ p0 < 0 ∧ ¬ 9 < p0) ∧ (¬ p1 < 0 ∧ ¬ 9 < p1) ∧ ¬ p0 = p1 ∧ ¬ p2 < 10 ∧ ¬ 200 < p2 ∧ ¬ p3 < 1 ∧ 999 < p3) ∨ ((¬ p0 < 0 ∧ ¬ 9 < p0) ∧ (¬ p1 < 0 ∧ ¬ 9 < p1) ∧ ¬ p0 = p1 ∧ ¬ p2 < 10 ∧ ¬ 200 < p2 ∧ ¬ p3 < 1 ∧ ¬ 999 < p3 ∧ ¬ 0 ≤ p4) ∨ ((¬ p0 < 0 ∧ ¬ 9 < p0) ∧ (¬ p1 < 0 ∧ ¬ 9 < p1) ∧ p0 = p1))) ∧ r = 1 ∧ u = ([(ou, .inl (cJ, 1, .inr (.inl ((fun _ => 0)))))], [])) ∨ (((((¬ p0 < 0 ∧ ¬ 9 < p0) ∧ (¬ p1 < 0 ∧ ¬ 9 < p1) ∧ ¬ p0 = p1 ∧ ¬ p2 < 10 ∧ ¬ 200 < p2 ∧ ¬ p3 < 1 ∧ ¬ 999 < p3 ∧ 0 ≤ p4 ∧ ((p4 >>> (p1 &&& 31)) &&& (1 : Int32)) = 0 ∧ p1 ≤ p0) ∨ ((¬ p0 < 0 ∧ ¬ 9 < p0) ∧ (¬ p1 < 0 ∧ ¬ 9 < p1) ∧ ¬ p0 = p1 ∧ ¬ p2 < 10 ∧ ¬ 200 < p2 ∧ ¬ p3 < 1 ∧ ¬ 999 < p3 ∧ 0 ≤ p4 ∧ ((p4 >>> (p1 &&& 31)) &&& (1 : Int32)) = 0 ∧ ¬ p1 ≤ p0) ∨ ((¬ p0 < 0 ∧ ¬ 9 < p0) ∧ (¬ p1 < 0 ∧ ¬ 9 < p1) ∧ ¬ p0 = p1 ∧ ¬ p2 < 10 ∧ ¬ 200 < p2 ∧ ¬ p3 < 1 ∧ ¬ 999 < p3 ∧ 0 ≤ p4 ∧ ¬ ((p4 >>> (p1 &&& 31)) &&& (1 : Int32)) = 0))) ∧ r = 0 ∧ u = ([(ou, .inl (cJ, 1, .inr (.inl (vp_updL ((fun _ => 0)) (0 : Int32).toNatClampNeg 0))))], []))) (tw_B D (va_A [(x, .inr (7, [.ref c1, .ref ps1, .ref lg, .int 9, .int 99, .int 0, .int 0, .int 0, .int ((-1)), .int 0, .int 0, .long 0])), (ps1, .inr (3, [.int 0, .ref em, .int 0])), (ou, .inl (cJ, 1, .inr (.inl ((fun _ => 0)))))] sz)) (va_A [(x, .inr (7, [.ref c1, .ref ps1, .ref lg, .int 9, .int 99, .int 0, .int 0, .int 0, .int ((-1)), .int 0, .int 0, .long 0])), (ps1, .inr (3, [.int 0, .ref em, .int 0])), (ou, .inl (cJ, 1, .inr (.inl ((fun _ => 0)))))] sz)) 2 17 (va_A [(x, .inr (7, [.ref c1, .ref ps1, .ref lg, .int 9, .int 99, .int 0, .int 0, .int 0, .int ((-1)), .int 0, .int 0, .long 0])), (ps1, .inr (3, [.int 0, .ref em, .int 0])), (ou, .inl (cJ, 1, .inr (.inl ((fun _ => 0)))))] sz) := by
  refine va_MetW (cc := cL_come) (maxL := 8) (ret := (some .int)) (hh := [(0, 16, 19, 13), (0, 16, 23, 15)]) (by decide) rfl ?_
  intro p e s m args below meth c s₁ B hml hv
  obtain ⟨rfl, hsz, hP, hK, hD0, hF⟩ := hv
  have hx := B.exec
  have hb := B.bytes
  have hr := B.returns
  have hts := atoms_spec (ws := wsL_come) B.pre
  have hown : s.vm.findClass RL = some m.cls := findClass_of_methodNamed B.named
  have hlocks := B.notSynchronized
  have htab := vx_table (x := yL_come) B (hts _ List.mem_cons_self)
  subst hsz
  have hD := hD0.self (sz := s.heap.size)
  generalize hAe : va_A [(x, .inr (7, [.ref c1, .ref ps1, .ref lg, .int 9, .int 99, .int 0, .int 0, .int 0, .int ((-1)), .int 0, .int 0, .long 0])), (ps1, .inr (3, [.int 0, .ref em, .int 0])), (ou, .inl (cJ, 1, .inr (.inl ((fun _ => 0)))))] s.heap.size = A at hD hF ⊢
  have hA : ∀ q : Nat, s.heap.size ≤ q → A q := fun q h => by rw [← hAe]; exact Or.inr h
  have hS : va_S A s.heap s.heap [] := va_S.rf
  have hP : va_P D vwCl [(x, .inr (7, [.ref c1, .ref ps1, .ref lg, .int 9, .int 99, .int 0, .int 0, .int 0, .int ((-1)), .int 0, .int 0, .long 0])), (ps1, .inr (3, [.int 0, .ref em, .int 0])), (ou, .inl (cJ, 1, .inr (.inl ((fun _ => 0)))))] s.heap := hP
  have hl := lv_entry ([.ref x, .int p0, .int p1, .int p2, .int p3, .int p4, .ref ou]) (n := 8) (Nat.le_of_ble_eq_true rfl)
  rw [lg_entry_eq]
  generalize (lg_sl ([.ref x, .int p0, .int p1, .int p2, .int p3, .int p4, .ref ou]) ++ List.replicate (8 - (lg_sl ([.ref x, .int p0, .int p1, .int p2, .int p3, .int p4, .ref ou])).length) Slot.unset).toArray = ls at hl ⊢
  have hl : lv_has ls 8 [(0, .ref x), (1, .int p0), (2, .int p1), (3, .int p2), (4, .int p3), (5, .int p4), (6, .ref ou)] := hl
  refine lv_aload hx hb dL_come_0 (lv_at hl 6 rfl) ?_
  refine lv_iconst (v := 0) hx hb dL_come_2 (by decide) ?_
  refine lv_aload_n hx hb dL_come_3 rfl (lv_at hl 0 rfl) ?_
  refine lv_iload_n hx hb dL_come_4 rfl (lv_at hl 1 rfl) ?_
  refine lv_iload_n hx hb dL_come_5 rfl (lv_at hl 2 rfl) ?_
  refine lv_iload_n hx hb dL_come_6 rfl (lv_at hl 3 rfl) ?_
  refine lv_iload hx hb dL_come_7 (lv_at hl 4 rfl) ?_
  refine lv_iload hx hb dL_come_9 (lv_at hl 5 rfl) ?_
  have hPc := hP.sub (ws' := [(x, .inr (7, [.ref c1, .ref ps1, .ref lg, .int 9, .int 99, .int 0, .int 0, .int 0, .int ((-1)), .int 0, .int 0, .long 0])), (ps1, .inr (3, [.int 0, .ref em, .int 0]))]) [0, 1] rfl
  have hDc := hD.sub (ws' := [(x, .inr (7, [.ref c1, .ref ps1, .ref lg, .int 9, .int 99, .int 0, .int 0, .int 0, .int ((-1)), .int 0, .int 0, .long 0])), (ps1, .inr (3, [.int 0, .ref em, .int 0]))]) [0, 1] (by decide) rfl
  have hKc := hK.sub (tys' := []) [] rfl
  have hFc := va_free (wc := [(x, .inr (7, [.ref c1, .ref ps1, .ref lg, .int 9, .int 99, .int 0, .int 0, .int 0, .int ((-1)), .int 0, .int 0, .long 0])), (ps1, .inr (3, [.int 0, .ref em, .int 0]))]) hD hS hA [0, 1] rfl
  refine vx_calli (vx_runV (As := [.int p0, .int p1, .int p2, .int p3, .int p4]) (rest := [.int 0, .ref ou]) ⟨hx, hb, hml, hown, hts⟩ (c_X3_come l hst em kw kb D x p0 p1 p2 p3 p4 c1 ps1 lg _) (cwV 5 hts gL_come_X3_come rfl rfl rfl (by decide +kernel) ⟨(Nat.le_of_ble_eq_true rfl), (Nat.le_of_ble_eq_true rfl)⟩) (tw_preV hF hS hFc hPc hKc hDc (va_recv hKc hPc (ci := 7) (q0 := 0) rfl rfl)) rfl rfl hl.1 rfl (lv_room (Nat.le_of_ble_eq_true rfl)) dL_come_11 ⟨(Nat.le_of_ble_eq_true rfl), (Nat.le_of_ble_eq_true rfl)⟩) hS (fun q _ h => hFc q h) hFc (fun q _ h => hFc q h) (fun E ce q9 u t H locs ht hvm hw hB hz1 hk1 hS hce hcv hcl => ?_) (fun r u t H locs ht hvm hw hB hz1 hk1 hS => ?_)
  · obtain ⟨hE, hB⟩ := hB
    obtain ⟨g_1, rfl⟩ := hw
    subst hE
    obtain ⟨hP, hD, hK⟩ := tw_join (wr := [(ou, .inl (cJ, 1, .inr (.inl ((fun _ => 0)))))]) hP hD hK [0, 1] [2] rfl rfl (by decide) (by decide) hk1 hFc ht hvm hB
    have hP : va_P D vwCl [(ou, .inl (cJ, 1, .inr (.inl ((fun _ => 0)))))] _ := hP
    have hD : va_D A [(ou, .inl (cJ, 1, .inr (.inl ((fun _ => 0)))))] := hD
    have hK : va_K D vwCl [(cJ, .long)] s := hK
    refine vx_catch (name := "java/lang/IllegalArgumentException") hown [] (ExceptionTableEntry.mk 0 16 19 13) [ExceptionTableEntry.mk 0 16 23 15] (by rw [htab]; rfl) (List.forall_mem_nil _) (by decide) (by decide) (hts (.classLink RL 13 "java/lang/IllegalArgumentException") (by decide +kernel)) (tw_cs hF (q := ("java/lang/IllegalArgumentException", "java/lang/IllegalArgumentException")) (by decide)) hce hcv hcl ?_
    refine W.widen (k := 2) (n := 17) (Nat.le_refl _) (Nat.le_refl _) ?_
    refine W.eq (g2 := F0 m 19 ls [.ref q9]) rfl ?_
    refine lv_astore (lv' := [(7, .ref q9), (0, .ref x), (1, .int p0), (2, .int p1), (3, .int p2), (4, .int p3), (5, .int p4), (6, .ref ou)]) hx hb dL_come_19 hl (by decide) rfl (fun ls hl => ?_)
    refine lv_iconst (v := 1) hx hb dL_come_21 (by decide) ?_
    refine W.widen (k := 2) (n := 17) (Nat.le_of_ble_eq_true rfl) (Nat.le_of_ble_eq_true rfl) ?_
    have hP9 := hP.sub (ws' := [(ou, .inl (cJ, 1, .inr (.inl ((fun _ => 0)))))]) [0] rfl
    have hD9 := hD.sub (ws' := [(ou, .inl (cJ, 1, .inr (.inl ((fun _ => 0)))))]) [0] (by decide) rfl
    have hK9 := hK.sub (tys' := []) [] rfl
    exact W.iret (v := 1) hx hb hr (fun t ht hW => ⟨⟨1, ([(ou, .inl (cJ, 1, .inr (.inl ((fun _ => 0)))))], []), rfl, (Or.inl ⟨g_1, rfl, rfl⟩), by rw [ht]; exact hP9, va_K.moved hW.alike hK9, hD9⟩, hS.F ht⟩) hS.2.2 dL_come_22
  · obtain ⟨g_2, rfl, rfl⟩ := hw
    obtain ⟨hP, hD, hK⟩ := tw_join (wr := [(ou, .inl (cJ, 1, .inr (.inl ((fun _ => 0)))))]) hP hD hK [0, 1] [2] rfl rfl (by decide) (by decide) hk1 hFc ht hvm hB
    have hP : va_P D vwCl [(ou, .inl (cJ, 1, .inr (.inl ((fun _ => 0)))))] _ := hP
    have hD : va_D A [(ou, .inl (cJ, 1, .inr (.inl ((fun _ => 0)))))] := hD
    have hK : va_K D vwCl [(cJ, .long)] s := hK
    refine W.widen (k := 2) (n := 17) (Nat.le_refl _) (Nat.le_refl _) ?_
    refine W.eq (g2 := F0 m 14 ls [.int 0, .int 0, .ref ou]) rfl ?_
    refine lv_i2l (v := 0) hx hb dL_come_14 (by decide) ?_
    refine va_last hx hb hK hP hD hS 0 0 rfl rfl (by unfold vp_in; decide) dL_come_15 (fun H locs hP hD hS => ?_)
    have hP : va_P D vwCl [(ou, .inl (cJ, 1, .inr (.inl (vp_updL ((fun _ => 0)) (0 : Int32).toNatClampNeg 0))))] _ := hP
    have hD : va_D A [(ou, .inl (cJ, 1, .inr (.inl (vp_updL ((fun _ => 0)) (0 : Int32).toNatClampNeg 0))))] := hD
    refine lv_goto (tgt := 27) hx hb dL_come_16 (by decide) ?_
    refine lv_iconst (v := 0) hx hb dL_come_27 (by decide) ?_
    refine W.widen (k := 2) (n := 17) (Nat.le_of_ble_eq_true rfl) (Nat.le_of_ble_eq_true rfl) ?_
    have hP9 := hP.sub (ws' := [(ou, .inl (cJ, 1, .inr (.inl (vp_updL ((fun _ => 0)) (0 : Int32).toNatClampNeg 0))))]) [0] rfl
    have hD9 := hD.sub (ws' := [(ou, .inl (cJ, 1, .inr (.inl (vp_updL ((fun _ => 0)) (0 : Int32).toNatClampNeg 0))))]) [0] (by decide) rfl
    have hK9 := hK.sub (tys' := []) [] rfl
    exact W.iret (v := 0) hx hb hr (fun t ht hW => ⟨⟨0, ([(ou, .inl (cJ, 1, .inr (.inl (vp_updL ((fun _ => 0)) (0 : Int32).toNatClampNeg 0))))], []), rfl, (Or.inr (⟨g_2, rfl, rfl⟩)), by rw [ht]; exact hP9, va_K.moved hW.alike hK9, hD9⟩, hS.F ht⟩) hS.2.2 dL_come_28
set_option maxHeartbeats 4000000 in
set_option maxRecDepth 100000 in
theorem c_L_park (l : Launch) (hst : l.stackTraces = false) (em kw kb : Nat) (D : va_G) (x : Nat) (p0 : Int32) (p1 : Int32) (ou : Nat) (c1 : Nat) (ps1 : Nat) (lg : Nat) (cJ : ClassId) (sz : Nat) : Met l yL_park wsL_park ({ frames := 8, cells := 1, slots := 6, locals := 127 }) (va_Pc [.ref x, .int p0, .int p1, .ref ou] (tw_Pre em kw kb D sz [(x, .inr (7, [.ref c1, .ref ps1, .ref lg, .int 9, .int 99, .int 0, .int 0, .int 0, .int ((-1)), .int 0, .int 0, .long 0])), (c1, .inr (3, [.int 0, .ref em, .int 0])), (ou, .inl (cJ, 1, .inr (.inl ((fun _ => 0)))))] [(cJ, .long)])) (va_Qi (fun (r : Int32) (u : tw_U) => r = 1 ∧ u = ([(ou, .inl (cJ, 1, .inr (.inl ((fun _ => 0)))))], [])) (tw_B D (va_A [(x, .inr (7, [.ref c1, .ref ps1, .ref lg, .int 9, .int 99, .int 0, .int 0, .int 0, .int ((-1)), .int 0, .int 0, .long 0])), (c1, .inr (3, [.int 0, .ref em, .int 0])), (ou, .inl (cJ, 1, .inr (.inl ((fun _ => 0)))))] sz)) (va_A [(x, .inr (7, [.ref c1, .ref ps1, .ref lg, .int 9, .int 99, .int 0, .int 0, .int 0, .int ((-1)), .int 0, .int 0, .long 0])), (c1, .inr (3, [.int 0, .ref em, .int 0])), (ou, .inl (cJ, 1, .inr (.inl ((fun _ => 0)))))] sz)) 1 6 (va_A [(x, .inr (7, [.ref c1, .ref ps1, .ref lg, .int 9, .int 99, .int 0, .int 0, .int 0, .int ((-1)), .int 0, .int 0, .long 0])), (c1, .inr (3, [.int 0, .ref em, .int 0])), (ou, .inl (cJ, 1, .inr (.inl ((fun _ => 0)))))] sz) := by
  refine va_MetW (cc := cL_park) (maxL := 5) (ret := (some .int)) (hh := [(0, 10, 13, 35), (0, 10, 17, 13)]) (by decide) rfl ?_
  intro p e s m args below meth c s₁ B hml hv
  obtain ⟨rfl, hsz, hP, hK, hD0, hF⟩ := hv
  have hx := B.exec
  have hb := B.bytes
  have hr := B.returns
  have hts := atoms_spec (ws := wsL_park) B.pre
  have hown : s.vm.findClass RL = some m.cls := findClass_of_methodNamed B.named
  have hlocks := B.notSynchronized
  have htab := vx_table (x := yL_park) B (hts _ List.mem_cons_self)
  subst hsz
  have hD := hD0.self (sz := s.heap.size)
  generalize hAe : va_A [(x, .inr (7, [.ref c1, .ref ps1, .ref lg, .int 9, .int 99, .int 0, .int 0, .int 0, .int ((-1)), .int 0, .int 0, .long 0])), (c1, .inr (3, [.int 0, .ref em, .int 0])), (ou, .inl (cJ, 1, .inr (.inl ((fun _ => 0)))))] s.heap.size = A at hD hF ⊢
  have hA : ∀ q : Nat, s.heap.size ≤ q → A q := fun q h => by rw [← hAe]; exact Or.inr h
  have hS : va_S A s.heap s.heap [] := va_S.rf
  have hP : va_P D vwCl [(x, .inr (7, [.ref c1, .ref ps1, .ref lg, .int 9, .int 99, .int 0, .int 0, .int 0, .int ((-1)), .int 0, .int 0, .long 0])), (c1, .inr (3, [.int 0, .ref em, .int 0])), (ou, .inl (cJ, 1, .inr (.inl ((fun _ => 0)))))] s.heap := hP
  have hl := lv_entry ([.ref x, .int p0, .int p1, .ref ou]) (n := 5) (Nat.le_of_ble_eq_true rfl)
  rw [lg_entry_eq]
  generalize (lg_sl ([.ref x, .int p0, .int p1, .ref ou]) ++ List.replicate (5 - (lg_sl ([.ref x, .int p0, .int p1, .ref ou])).length) Slot.unset).toArray = ls at hl ⊢
  have hl : lv_has ls 5 [(0, .ref x), (1, .int p0), (2, .int p1), (3, .ref ou)] := hl
  refine lv_aload_n hx hb dL_park_0 rfl (lv_at hl 3 rfl) ?_
  refine lv_iconst (v := 0) hx hb dL_park_1 (by decide) ?_
  refine lv_aload_n hx hb dL_park_2 rfl (lv_at hl 0 rfl) ?_
  refine lv_iload_n hx hb dL_park_3 rfl (lv_at hl 1 rfl) ?_
  refine lv_iload_n hx hb dL_park_4 rfl (lv_at hl 2 rfl) ?_
  have hPc := hP.sub (ws' := [(x, .inr (7, [.ref c1, .ref ps1, .ref lg, .int 9, .int 99, .int 0, .int 0, .int 0, .int ((-1)), .int 0, .int 0, .long 0])), (c1, .inr (3, [.int 0, .ref em, .int 0]))]) [0, 1] rfl
  have hDc := hD.sub (ws' := [(x, .inr (7, [.ref c1, .ref ps1, .ref lg, .int 9, .int 99, .int 0, .int 0, .int 0, .int ((-1)), .int 0, .int 0, .long 0])), (c1, .inr (3, [.int 0, .ref em, .int 0]))]) [0, 1] (by decide) rfl
  have hKc := hK.sub (tys' := []) [] rfl
  have hFc := va_free (wc := [(x, .inr (7, [.ref c1, .ref ps1, .ref lg, .int 9, .int 99, .int 0, .int 0, .int 0, .int ((-1)), .int 0, .int 0, .long 0])), (c1, .inr (3, [.int 0, .ref em, .int 0]))]) hD hS hA [0, 1] rfl
  refine vx_calli (vx_runV (As := [.int p0, .int p1]) (rest := [.int 0, .ref ou]) ⟨hx, hb, hml, hown, hts⟩ (c_X3_park l hst em kw kb D x p0 p1 c1 ps1 lg _) (cwV 2 hts gL_park_X3_park rfl rfl rfl (by decide +kernel) ⟨(Nat.le_of_ble_eq_true rfl), (Nat.le_of_ble_eq_true rfl)⟩) (tw_preV hF hS hFc hPc hKc hDc (va_recv hKc hPc (ci := 7) (q0 := 0) rfl rfl)) rfl rfl hl.1 rfl (lv_room (Nat.le_of_ble_eq_true rfl)) dL_park_5 ⟨(Nat.le_of_ble_eq_true rfl), (Nat.le_of_ble_eq_true rfl)⟩) hS (fun q _ h => hFc q h) hFc (fun q _ h => hFc q h) (fun E ce q9 u t H locs ht hvm hw hB hz1 hk1 hS hce hcv hcl => ?_) (fun r u t H locs ht hvm hw hB hz1 hk1 hS => ?_)
  · obtain ⟨hE, hB⟩ := hB
    subst hw
    subst hE
    obtain ⟨hP, hD, hK⟩ := tw_join (wr := [(ou, .inl (cJ, 1, .inr (.inl ((fun _ => 0)))))]) hP hD hK [0, 1] [2] rfl rfl (by decide) (by decide) hk1 hFc ht hvm hB
    have hP : va_P D vwCl [(ou, .inl (cJ, 1, .inr (.inl ((fun _ => 0)))))] _ := hP
    have hD : va_D A [(ou, .inl (cJ, 1, .inr (.inl ((fun _ => 0)))))] := hD
    have hK : va_K D vwCl [(cJ, .long)] s := hK
    refine vx_catch (name := "java/lang/IndexOutOfBoundsException") hown [] (ExceptionTableEntry.mk 0 10 13 35) [ExceptionTableEntry.mk 0 10 17 13] (by rw [htab]; rfl) (List.forall_mem_nil _) (by decide) (by decide) (hts (.classLink RL 35 "java/lang/IndexOutOfBoundsException") (by decide +kernel)) (tw_cs hF (q := ("java/lang/IndexOutOfBoundsException", "java/lang/IndexOutOfBoundsException")) (by decide)) hce hcv hcl ?_
    refine W.widen (k := 1) (n := 6) (Nat.le_refl _) (Nat.le_refl _) ?_
    refine W.eq (g2 := F0 m 13 ls [.ref q9]) rfl ?_
    refine lv_astore (lv' := [(4, .ref q9), (0, .ref x), (1, .int p0), (2, .int p1), (3, .ref ou)]) hx hb dL_park_13 hl (by decide) rfl (fun ls hl => ?_)
    refine lv_iconst (v := 1) hx hb dL_park_15 (by decide) ?_
    refine W.widen (k := 1) (n := 6) (Nat.le_of_ble_eq_true rfl) (Nat.le_of_ble_eq_true rfl) ?_
    have hP9 := hP.sub (ws' := [(ou, .inl (cJ, 1, .inr (.inl ((fun _ => 0)))))]) [0] rfl
    have hD9 := hD.sub (ws' := [(ou, .inl (cJ, 1, .inr (.inl ((fun _ => 0)))))]) [0] (by decide) rfl
    have hK9 := hK.sub (tys' := []) [] rfl
    exact W.iret (v := 1) hx hb hr (fun t ht hW => ⟨⟨1, ([(ou, .inl (cJ, 1, .inr (.inl ((fun _ => 0)))))], []), rfl, ⟨rfl, rfl⟩, by rw [ht]; exact hP9, va_K.moved hW.alike hK9, hD9⟩, hS.F ht⟩) hS.2.2 dL_park_16
  · exact hw.elim
set_option maxHeartbeats 4000000 in
set_option maxRecDepth 100000 in
theorem c_L_serves (l : Launch) (hst : l.stackTraces = false) (em kw kb : Nat) (D : va_G) (x : Nat) (p0 : Int32) (p1 : Int32) (ou : Nat) (c1 : Nat) (ps1 : Nat) (lg : Nat) (cJ : ClassId) (sz : Nat) : Met l yL_serves wsL_serves ({ frames := 8, cells := 1, slots := 6, locals := 126 }) (va_Pc [.ref x, .int p0, .int p1, .ref ou] (tw_Pre em kw kb D sz [(x, .inr (7, [.ref c1, .ref ps1, .ref lg, .int 9, .int 99, .int 0, .int 0, .int 0, .int ((-1)), .int 0, .int 0, .long 0])), (c1, .inr (3, [.int 0, .ref em, .int 0])), (ou, .inl (cJ, 1, .inr (.inl ((fun _ => 0)))))] [(cJ, .long)])) (va_Qi (fun (r : Int32) (u : tw_U) => r = 1 ∧ u = ([(ou, .inl (cJ, 1, .inr (.inl ((fun _ => 0)))))], [])) (tw_B D (va_A [(x, .inr (7, [.ref c1, .ref ps1, .ref lg, .int 9, .int 99, .int 0, .int 0, .int 0, .int ((-1)), .int 0, .int 0, .long 0])), (c1, .inr (3, [.int 0, .ref em, .int 0])), (ou, .inl (cJ, 1, .inr (.inl ((fun _ => 0)))))] sz)) (va_A [(x, .inr (7, [.ref c1, .ref ps1, .ref lg, .int 9, .int 99, .int 0, .int 0, .int 0, .int ((-1)), .int 0, .int 0, .long 0])), (c1, .inr (3, [.int 0, .ref em, .int 0])), (ou, .inl (cJ, 1, .inr (.inl ((fun _ => 0)))))] sz)) 1 6 (va_A [(x, .inr (7, [.ref c1, .ref ps1, .ref lg, .int 9, .int 99, .int 0, .int 0, .int 0, .int ((-1)), .int 0, .int 0, .long 0])), (c1, .inr (3, [.int 0, .ref em, .int 0])), (ou, .inl (cJ, 1, .inr (.inl ((fun _ => 0)))))] sz) := by
  refine va_MetW (cc := cL_serves) (maxL := 5) (ret := (some .int)) (hh := [(0, 17, 20, 35), (0, 17, 24, 13)]) (by decide) rfl ?_
  intro p e s m args below meth c s₁ B hml hv
  obtain ⟨rfl, hsz, hP, hK, hD0, hF⟩ := hv
  have hx := B.exec
  have hb := B.bytes
  have hr := B.returns
  have hts := atoms_spec (ws := wsL_serves) B.pre
  have hown : s.vm.findClass RL = some m.cls := findClass_of_methodNamed B.named
  have hlocks := B.notSynchronized
  have htab := vx_table (x := yL_serves) B (hts _ List.mem_cons_self)
  subst hsz
  have hD := hD0.self (sz := s.heap.size)
  generalize hAe : va_A [(x, .inr (7, [.ref c1, .ref ps1, .ref lg, .int 9, .int 99, .int 0, .int 0, .int 0, .int ((-1)), .int 0, .int 0, .long 0])), (c1, .inr (3, [.int 0, .ref em, .int 0])), (ou, .inl (cJ, 1, .inr (.inl ((fun _ => 0)))))] s.heap.size = A at hD hF ⊢
  have hA : ∀ q : Nat, s.heap.size ≤ q → A q := fun q h => by rw [← hAe]; exact Or.inr h
  have hS : va_S A s.heap s.heap [] := va_S.rf
  have hP : va_P D vwCl [(x, .inr (7, [.ref c1, .ref ps1, .ref lg, .int 9, .int 99, .int 0, .int 0, .int 0, .int ((-1)), .int 0, .int 0, .long 0])), (c1, .inr (3, [.int 0, .ref em, .int 0])), (ou, .inl (cJ, 1, .inr (.inl ((fun _ => 0)))))] s.heap := hP
  have hl := lv_entry ([.ref x, .int p0, .int p1, .ref ou]) (n := 5) (Nat.le_of_ble_eq_true rfl)
  rw [lg_entry_eq]
  generalize (lg_sl ([.ref x, .int p0, .int p1, .ref ou]) ++ List.replicate (5 - (lg_sl ([.ref x, .int p0, .int p1, .ref ou])).length) Slot.unset).toArray = ls at hl ⊢
  have hl : lv_has ls 5 [(0, .ref x), (1, .int p0), (2, .int p1), (3, .ref ou)] := hl
  refine lv_aload_n hx hb dL_serves_0 rfl (lv_at hl 3 rfl) ?_
  refine lv_iconst (v := 0) hx hb dL_serves_1 (by decide) ?_
  refine lv_aload_n hx hb dL_serves_2 rfl (lv_at hl 0 rfl) ?_
  refine lv_iload_n hx hb dL_serves_3 rfl (lv_at hl 1 rfl) ?_
  refine lv_iload_n hx hb dL_serves_4 rfl (lv_at hl 2 rfl) ?_
  have hPc := hP.sub (ws' := [(x, .inr (7, [.ref c1, .ref ps1, .ref lg, .int 9, .int 99, .int 0, .int 0, .int 0, .int ((-1)), .int 0, .int 0, .long 0])), (c1, .inr (3, [.int 0, .ref em, .int 0]))]) [0, 1] rfl
  have hDc := hD.sub (ws' := [(x, .inr (7, [.ref c1, .ref ps1, .ref lg, .int 9, .int 99, .int 0, .int 0, .int 0, .int ((-1)), .int 0, .int 0, .long 0])), (c1, .inr (3, [.int 0, .ref em, .int 0]))]) [0, 1] (by decide) rfl
  have hKc := hK.sub (tys' := []) [] rfl
  have hFc := va_free (wc := [(x, .inr (7, [.ref c1, .ref ps1, .ref lg, .int 9, .int 99, .int 0, .int 0, .int 0, .int ((-1)), .int 0, .int 0, .long 0])), (c1, .inr (3, [.int 0, .ref em, .int 0]))]) hD hS hA [0, 1] rfl
  refine vx_calli (vx_runV (As := [.int p0, .int p1]) (rest := [.int 0, .ref ou]) ⟨hx, hb, hml, hown, hts⟩ (c_X3_serves l hst em kw kb D x p0 p1 c1 ps1 lg _) (cwV 2 hts gL_serves_X3_serves rfl rfl rfl (by decide +kernel) ⟨(Nat.le_of_ble_eq_true rfl), (Nat.le_of_ble_eq_true rfl)⟩) (tw_preV hF hS hFc hPc hKc hDc (va_recv hKc hPc (ci := 7) (q0 := 0) rfl rfl)) rfl rfl hl.1 rfl (lv_room (Nat.le_of_ble_eq_true rfl)) dL_serves_5 ⟨(Nat.le_of_ble_eq_true rfl), (Nat.le_of_ble_eq_true rfl)⟩) hS (fun q _ h => hFc q h) hFc (fun q _ h => hFc q h) (fun E ce q9 u t H locs ht hvm hw hB hz1 hk1 hS hce hcv hcl => ?_) (fun r u t H locs ht hvm hw hB hz1 hk1 hS => ?_)
  · obtain ⟨hE, hB⟩ := hB
    subst hw
    subst hE
    obtain ⟨hP, hD, hK⟩ := tw_join (wr := [(ou, .inl (cJ, 1, .inr (.inl ((fun _ => 0)))))]) hP hD hK [0, 1] [2] rfl rfl (by decide) (by decide) hk1 hFc ht hvm hB
    have hP : va_P D vwCl [(ou, .inl (cJ, 1, .inr (.inl ((fun _ => 0)))))] _ := hP
    have hD : va_D A [(ou, .inl (cJ, 1, .inr (.inl ((fun _ => 0)))))] := hD
    have hK : va_K D vwCl [(cJ, .long)] s := hK
    refine vx_catch (name := "java/lang/IndexOutOfBoundsException") hown [] (ExceptionTableEntry.mk 0 17 20 35) [ExceptionTableEntry.mk 0 17 24 13] (by rw [htab]; rfl) (List.forall_mem_nil _) (by decide) (by decide) (hts (.classLink RL 35 "java/lang/IndexOutOfBoundsException") (by decide +kernel)) (tw_cs hF (q := ("java/lang/IndexOutOfBoundsException", "java/lang/IndexOutOfBoundsException")) (by decide)) hce hcv hcl ?_
    refine W.widen (k := 1) (n := 6) (Nat.le_refl _) (Nat.le_refl _) ?_
    refine W.eq (g2 := F0 m 20 ls [.ref q9]) rfl ?_
    refine lv_astore (lv' := [(4, .ref q9), (0, .ref x), (1, .int p0), (2, .int p1), (3, .ref ou)]) hx hb dL_serves_20 hl (by decide) rfl (fun ls hl => ?_)
    refine lv_iconst (v := 1) hx hb dL_serves_22 (by decide) ?_
    refine W.widen (k := 1) (n := 6) (Nat.le_of_ble_eq_true rfl) (Nat.le_of_ble_eq_true rfl) ?_
    have hP9 := hP.sub (ws' := [(ou, .inl (cJ, 1, .inr (.inl ((fun _ => 0)))))]) [0] rfl
    have hD9 := hD.sub (ws' := [(ou, .inl (cJ, 1, .inr (.inl ((fun _ => 0)))))]) [0] (by decide) rfl
    have hK9 := hK.sub (tys' := []) [] rfl
    exact W.iret (v := 1) hx hb hr (fun t ht hW => ⟨⟨1, ([(ou, .inl (cJ, 1, .inr (.inl ((fun _ => 0)))))], []), rfl, ⟨rfl, rfl⟩, by rw [ht]; exact hP9, va_K.moved hW.alike hK9, hD9⟩, hS.F ht⟩) hS.2.2 dL_serves_23
  · exact hw.elim
set_option maxHeartbeats 4000000 in
set_option maxRecDepth 100000 in
theorem c_L_floorOf (l : Launch) (hst : l.stackTraces = false) (em kw kb : Nat) (D : va_G) (x : Nat) (p0 : Int32) (ou : Nat) (c1 : Nat) (ps1 : Nat) (lg : Nat) (cJ : ClassId) (sz : Nat) : Met l yL_floorOf wsL_floorOf ({ frames := 8, cells := 1, slots := 6, locals := 124 }) (va_Pc [.ref x, .int p0, .ref ou] (tw_Pre em kw kb D sz [(x, .inr (7, [.ref c1, .ref ps1, .ref lg, .int 9, .int 99, .int 0, .int 0, .int 0, .int ((-1)), .int 0, .int 0, .long 0])), (c1, .inr (3, [.int 0, .ref em, .int 0])), (ou, .inl (cJ, 1, .inr (.inl ((fun _ => 0)))))] [(cJ, .long)])) (va_Qi (fun (r : Int32) (u : tw_U) => r = 1 ∧ u = ([(ou, .inl (cJ, 1, .inr (.inl ((fun _ => 0)))))], [])) (tw_B D (va_A [(x, .inr (7, [.ref c1, .ref ps1, .ref lg, .int 9, .int 99, .int 0, .int 0, .int 0, .int ((-1)), .int 0, .int 0, .long 0])), (c1, .inr (3, [.int 0, .ref em, .int 0])), (ou, .inl (cJ, 1, .inr (.inl ((fun _ => 0)))))] sz)) (va_A [(x, .inr (7, [.ref c1, .ref ps1, .ref lg, .int 9, .int 99, .int 0, .int 0, .int 0, .int ((-1)), .int 0, .int 0, .long 0])), (c1, .inr (3, [.int 0, .ref em, .int 0])), (ou, .inl (cJ, 1, .inr (.inl ((fun _ => 0)))))] sz)) 1 6 (va_A [(x, .inr (7, [.ref c1, .ref ps1, .ref lg, .int 9, .int 99, .int 0, .int 0, .int 0, .int ((-1)), .int 0, .int 0, .long 0])), (c1, .inr (3, [.int 0, .ref em, .int 0])), (ou, .inl (cJ, 1, .inr (.inl ((fun _ => 0)))))] sz) := by
  refine va_MetW (cc := cL_floorOf) (maxL := 4) (ret := (some .int)) (hh := [(0, 9, 12, 35)]) (by decide) rfl ?_
  intro p e s m args below meth c s₁ B hml hv
  obtain ⟨rfl, hsz, hP, hK, hD0, hF⟩ := hv
  have hx := B.exec
  have hb := B.bytes
  have hr := B.returns
  have hts := atoms_spec (ws := wsL_floorOf) B.pre
  have hown : s.vm.findClass RL = some m.cls := findClass_of_methodNamed B.named
  have hlocks := B.notSynchronized
  have htab := vx_table (x := yL_floorOf) B (hts _ List.mem_cons_self)
  subst hsz
  have hD := hD0.self (sz := s.heap.size)
  generalize hAe : va_A [(x, .inr (7, [.ref c1, .ref ps1, .ref lg, .int 9, .int 99, .int 0, .int 0, .int 0, .int ((-1)), .int 0, .int 0, .long 0])), (c1, .inr (3, [.int 0, .ref em, .int 0])), (ou, .inl (cJ, 1, .inr (.inl ((fun _ => 0)))))] s.heap.size = A at hD hF ⊢
  have hA : ∀ q : Nat, s.heap.size ≤ q → A q := fun q h => by rw [← hAe]; exact Or.inr h
  have hS : va_S A s.heap s.heap [] := va_S.rf
  have hP : va_P D vwCl [(x, .inr (7, [.ref c1, .ref ps1, .ref lg, .int 9, .int 99, .int 0, .int 0, .int 0, .int ((-1)), .int 0, .int 0, .long 0])), (c1, .inr (3, [.int 0, .ref em, .int 0])), (ou, .inl (cJ, 1, .inr (.inl ((fun _ => 0)))))] s.heap := hP
  have hl := lv_entry ([.ref x, .int p0, .ref ou]) (n := 4) (Nat.le_of_ble_eq_true rfl)
  rw [lg_entry_eq]
  generalize (lg_sl ([.ref x, .int p0, .ref ou]) ++ List.replicate (4 - (lg_sl ([.ref x, .int p0, .ref ou])).length) Slot.unset).toArray = ls at hl ⊢
  have hl : lv_has ls 4 [(0, .ref x), (1, .int p0), (2, .ref ou)] := hl
  refine lv_aload_n hx hb dL_floorOf_0 rfl (lv_at hl 2 rfl) ?_
  refine lv_iconst (v := 0) hx hb dL_floorOf_1 (by decide) ?_
  refine lv_aload_n hx hb dL_floorOf_2 rfl (lv_at hl 0 rfl) ?_
  refine lv_iload_n hx hb dL_floorOf_3 rfl (lv_at hl 1 rfl) ?_
  have hPc := hP.sub (ws' := [(x, .inr (7, [.ref c1, .ref ps1, .ref lg, .int 9, .int 99, .int 0, .int 0, .int 0, .int ((-1)), .int 0, .int 0, .long 0])), (c1, .inr (3, [.int 0, .ref em, .int 0]))]) [0, 1] rfl
  have hDc := hD.sub (ws' := [(x, .inr (7, [.ref c1, .ref ps1, .ref lg, .int 9, .int 99, .int 0, .int 0, .int 0, .int ((-1)), .int 0, .int 0, .long 0])), (c1, .inr (3, [.int 0, .ref em, .int 0]))]) [0, 1] (by decide) rfl
  have hKc := hK.sub (tys' := []) [] rfl
  have hFc := va_free (wc := [(x, .inr (7, [.ref c1, .ref ps1, .ref lg, .int 9, .int 99, .int 0, .int 0, .int 0, .int ((-1)), .int 0, .int 0, .long 0])), (c1, .inr (3, [.int 0, .ref em, .int 0]))]) hD hS hA [0, 1] rfl
  refine vx_calli (vx_runV (As := [.int p0]) (rest := [.int 0, .ref ou]) ⟨hx, hb, hml, hown, hts⟩ (c_X3_floorOf l hst em kw kb D x p0 c1 ps1 lg _) (cwV 1 hts gL_floorOf_X3_floorOf rfl rfl rfl (by decide +kernel) ⟨(Nat.le_of_ble_eq_true rfl), (Nat.le_of_ble_eq_true rfl)⟩) (tw_preV hF hS hFc hPc hKc hDc (va_recv hKc hPc (ci := 7) (q0 := 0) rfl rfl)) rfl rfl hl.1 rfl (lv_room (Nat.le_of_ble_eq_true rfl)) dL_floorOf_4 ⟨(Nat.le_of_ble_eq_true rfl), (Nat.le_of_ble_eq_true rfl)⟩) hS (fun q _ h => hFc q h) hFc (fun q _ h => hFc q h) (fun E ce q9 u t H locs ht hvm hw hB hz1 hk1 hS hce hcv hcl => ?_) (fun r u t H locs ht hvm hw hB hz1 hk1 hS => ?_)
  · obtain ⟨hE, hB⟩ := hB
    subst hw
    subst hE
    obtain ⟨hP, hD, hK⟩ := tw_join (wr := [(ou, .inl (cJ, 1, .inr (.inl ((fun _ => 0)))))]) hP hD hK [0, 1] [2] rfl rfl (by decide) (by decide) hk1 hFc ht hvm hB
    have hP : va_P D vwCl [(ou, .inl (cJ, 1, .inr (.inl ((fun _ => 0)))))] _ := hP
    have hD : va_D A [(ou, .inl (cJ, 1, .inr (.inl ((fun _ => 0)))))] := hD
    have hK : va_K D vwCl [(cJ, .long)] s := hK
    refine vx_catch (name := "java/lang/IndexOutOfBoundsException") hown [] (ExceptionTableEntry.mk 0 9 12 35) [] (by rw [htab]; rfl) (List.forall_mem_nil _) (by decide) (by decide) (hts (.classLink RL 35 "java/lang/IndexOutOfBoundsException") (by decide +kernel)) (tw_cs hF (q := ("java/lang/IndexOutOfBoundsException", "java/lang/IndexOutOfBoundsException")) (by decide)) hce hcv hcl ?_
    refine W.widen (k := 1) (n := 6) (Nat.le_refl _) (Nat.le_refl _) ?_
    refine W.eq (g2 := F0 m 12 ls [.ref q9]) rfl ?_
    refine lv_astore_n (lv' := [(3, .ref q9), (0, .ref x), (1, .int p0), (2, .ref ou)]) hx hb dL_floorOf_12 rfl hl (by decide) rfl (fun ls hl => ?_)
    refine lv_iconst (v := 1) hx hb dL_floorOf_13 (by decide) ?_
    refine W.widen (k := 1) (n := 6) (Nat.le_of_ble_eq_true rfl) (Nat.le_of_ble_eq_true rfl) ?_
    have hP9 := hP.sub (ws' := [(ou, .inl (cJ, 1, .inr (.inl ((fun _ => 0)))))]) [0] rfl
    have hD9 := hD.sub (ws' := [(ou, .inl (cJ, 1, .inr (.inl ((fun _ => 0)))))]) [0] (by decide) rfl
    have hK9 := hK.sub (tys' := []) [] rfl
    exact W.iret (v := 1) hx hb hr (fun t ht hW => ⟨⟨1, ([(ou, .inl (cJ, 1, .inr (.inl ((fun _ => 0)))))], []), rfl, ⟨rfl, rfl⟩, by rw [ht]; exact hP9, va_K.moved hW.alike hK9, hD9⟩, hS.F ht⟩) hS.2.2 dL_floorOf_14
  · exact hw.elim
set_option maxHeartbeats 4000000 in
set_option maxRecDepth 100000 in
theorem c_L_floorByLog (l : Launch) (hst : l.stackTraces = false) (em kw kb : Nat) (D : va_G) (x : Nat) (p0 : Int32) (ou : Nat) (c1 : Nat) (ps1 : Nat) (lg : Nat) (cJ : ClassId) (sz : Nat) : Met l yL_floorByLog wsL_floorByLog ({ frames := 8, cells := 1, slots := 6, locals := 124 }) (va_Pc [.ref x, .int p0, .ref ou] (tw_Pre em kw kb D sz [(x, .inr (7, [.ref c1, .ref ps1, .ref lg, .int 9, .int 99, .int 0, .int 0, .int 0, .int ((-1)), .int 0, .int 0, .long 0])), (c1, .inr (3, [.int 0, .ref em, .int 0])), (ou, .inl (cJ, 1, .inr (.inl ((fun _ => 0)))))] [(cJ, .long)])) (va_Qi (fun (r : Int32) (u : tw_U) => r = 1 ∧ u = ([(ou, .inl (cJ, 1, .inr (.inl ((fun _ => 0)))))], [])) (tw_B D (va_A [(x, .inr (7, [.ref c1, .ref ps1, .ref lg, .int 9, .int 99, .int 0, .int 0, .int 0, .int ((-1)), .int 0, .int 0, .long 0])), (c1, .inr (3, [.int 0, .ref em, .int 0])), (ou, .inl (cJ, 1, .inr (.inl ((fun _ => 0)))))] sz)) (va_A [(x, .inr (7, [.ref c1, .ref ps1, .ref lg, .int 9, .int 99, .int 0, .int 0, .int 0, .int ((-1)), .int 0, .int 0, .long 0])), (c1, .inr (3, [.int 0, .ref em, .int 0])), (ou, .inl (cJ, 1, .inr (.inl ((fun _ => 0)))))] sz)) 1 6 (va_A [(x, .inr (7, [.ref c1, .ref ps1, .ref lg, .int 9, .int 99, .int 0, .int 0, .int 0, .int ((-1)), .int 0, .int 0, .long 0])), (c1, .inr (3, [.int 0, .ref em, .int 0])), (ou, .inl (cJ, 1, .inr (.inl ((fun _ => 0)))))] sz) := by
  refine va_MetW (cc := cL_floorByLog) (maxL := 4) (ret := (some .int)) (hh := [(0, 9, 12, 35)]) (by decide) rfl ?_
  intro p e s m args below meth c s₁ B hml hv
  obtain ⟨rfl, hsz, hP, hK, hD0, hF⟩ := hv
  have hx := B.exec
  have hb := B.bytes
  have hr := B.returns
  have hts := atoms_spec (ws := wsL_floorByLog) B.pre
  have hown : s.vm.findClass RL = some m.cls := findClass_of_methodNamed B.named
  have hlocks := B.notSynchronized
  have htab := vx_table (x := yL_floorByLog) B (hts _ List.mem_cons_self)
  subst hsz
  have hD := hD0.self (sz := s.heap.size)
  generalize hAe : va_A [(x, .inr (7, [.ref c1, .ref ps1, .ref lg, .int 9, .int 99, .int 0, .int 0, .int 0, .int ((-1)), .int 0, .int 0, .long 0])), (c1, .inr (3, [.int 0, .ref em, .int 0])), (ou, .inl (cJ, 1, .inr (.inl ((fun _ => 0)))))] s.heap.size = A at hD hF ⊢
  have hA : ∀ q : Nat, s.heap.size ≤ q → A q := fun q h => by rw [← hAe]; exact Or.inr h
  have hS : va_S A s.heap s.heap [] := va_S.rf
  have hP : va_P D vwCl [(x, .inr (7, [.ref c1, .ref ps1, .ref lg, .int 9, .int 99, .int 0, .int 0, .int 0, .int ((-1)), .int 0, .int 0, .long 0])), (c1, .inr (3, [.int 0, .ref em, .int 0])), (ou, .inl (cJ, 1, .inr (.inl ((fun _ => 0)))))] s.heap := hP
  have hl := lv_entry ([.ref x, .int p0, .ref ou]) (n := 4) (Nat.le_of_ble_eq_true rfl)
  rw [lg_entry_eq]
  generalize (lg_sl ([.ref x, .int p0, .ref ou]) ++ List.replicate (4 - (lg_sl ([.ref x, .int p0, .ref ou])).length) Slot.unset).toArray = ls at hl ⊢
  have hl : lv_has ls 4 [(0, .ref x), (1, .int p0), (2, .ref ou)] := hl
  refine lv_aload_n hx hb dL_floorByLog_0 rfl (lv_at hl 2 rfl) ?_
  refine lv_iconst (v := 0) hx hb dL_floorByLog_1 (by decide) ?_
  refine lv_aload_n hx hb dL_floorByLog_2 rfl (lv_at hl 0 rfl) ?_
  refine lv_iload_n hx hb dL_floorByLog_3 rfl (lv_at hl 1 rfl) ?_
  have hPc := hP.sub (ws' := [(x, .inr (7, [.ref c1, .ref ps1, .ref lg, .int 9, .int 99, .int 0, .int 0, .int 0, .int ((-1)), .int 0, .int 0, .long 0])), (c1, .inr (3, [.int 0, .ref em, .int 0]))]) [0, 1] rfl
  have hDc := hD.sub (ws' := [(x, .inr (7, [.ref c1, .ref ps1, .ref lg, .int 9, .int 99, .int 0, .int 0, .int 0, .int ((-1)), .int 0, .int 0, .long 0])), (c1, .inr (3, [.int 0, .ref em, .int 0]))]) [0, 1] (by decide) rfl
  have hKc := hK.sub (tys' := []) [] rfl
  have hFc := va_free (wc := [(x, .inr (7, [.ref c1, .ref ps1, .ref lg, .int 9, .int 99, .int 0, .int 0, .int 0, .int ((-1)), .int 0, .int 0, .long 0])), (c1, .inr (3, [.int 0, .ref em, .int 0]))]) hD hS hA [0, 1] rfl
  refine vx_calli (vx_runV (As := [.int p0]) (rest := [.int 0, .ref ou]) ⟨hx, hb, hml, hown, hts⟩ (c_X3_floorByLog l hst em kw kb D x p0 c1 ps1 lg _) (cwV 1 hts gL_floorByLog_X3_floorByLog rfl rfl rfl (by decide +kernel) ⟨(Nat.le_of_ble_eq_true rfl), (Nat.le_of_ble_eq_true rfl)⟩) (tw_preV hF hS hFc hPc hKc hDc (va_recv hKc hPc (ci := 7) (q0 := 0) rfl rfl)) rfl rfl hl.1 rfl (lv_room (Nat.le_of_ble_eq_true rfl)) dL_floorByLog_4 ⟨(Nat.le_of_ble_eq_true rfl), (Nat.le_of_ble_eq_true rfl)⟩) hS (fun q _ h => hFc q h) hFc (fun q _ h => hFc q h) (fun E ce q9 u t H locs ht hvm hw hB hz1 hk1 hS hce hcv hcl => ?_) (fun r u t H locs ht hvm hw hB hz1 hk1 hS => ?_)
  · obtain ⟨hE, hB⟩ := hB
    subst hw
    subst hE
    obtain ⟨hP, hD, hK⟩ := tw_join (wr := [(ou, .inl (cJ, 1, .inr (.inl ((fun _ => 0)))))]) hP hD hK [0, 1] [2] rfl rfl (by decide) (by decide) hk1 hFc ht hvm hB
    have hP : va_P D vwCl [(ou, .inl (cJ, 1, .inr (.inl ((fun _ => 0)))))] _ := hP
    have hD : va_D A [(ou, .inl (cJ, 1, .inr (.inl ((fun _ => 0)))))] := hD
    have hK : va_K D vwCl [(cJ, .long)] s := hK
    refine vx_catch (name := "java/lang/IndexOutOfBoundsException") hown [] (ExceptionTableEntry.mk 0 9 12 35) [] (by rw [htab]; rfl) (List.forall_mem_nil _) (by decide) (by decide) (hts (.classLink RL 35 "java/lang/IndexOutOfBoundsException") (by decide +kernel)) (tw_cs hF (q := ("java/lang/IndexOutOfBoundsException", "java/lang/IndexOutOfBoundsException")) (by decide)) hce hcv hcl ?_
    refine W.widen (k := 1) (n := 6) (Nat.le_refl _) (Nat.le_refl _) ?_
    refine W.eq (g2 := F0 m 12 ls [.ref q9]) rfl ?_
    refine lv_astore_n (lv' := [(3, .ref q9), (0, .ref x), (1, .int p0), (2, .ref ou)]) hx hb dL_floorByLog_12 rfl hl (by decide) rfl (fun ls hl => ?_)
    refine lv_iconst (v := 1) hx hb dL_floorByLog_13 (by decide) ?_
    refine W.widen (k := 1) (n := 6) (Nat.le_of_ble_eq_true rfl) (Nat.le_of_ble_eq_true rfl) ?_
    have hP9 := hP.sub (ws' := [(ou, .inl (cJ, 1, .inr (.inl ((fun _ => 0)))))]) [0] rfl
    have hD9 := hD.sub (ws' := [(ou, .inl (cJ, 1, .inr (.inl ((fun _ => 0)))))]) [0] (by decide) rfl
    have hK9 := hK.sub (tys' := []) [] rfl
    exact W.iret (v := 1) hx hb hr (fun t ht hW => ⟨⟨1, ([(ou, .inl (cJ, 1, .inr (.inl ((fun _ => 0)))))], []), rfl, ⟨rfl, rfl⟩, by rw [ht]; exact hP9, va_K.moved hW.alike hK9, hD9⟩, hS.F ht⟩) hS.2.2 dL_floorByLog_14
  · exact hw.elim
set_option maxHeartbeats 4000000 in
set_option maxRecDepth 100000 in
theorem c_L_directionOf (l : Launch) (hst : l.stackTraces = false) (em kw kb : Nat) (D : va_G) (x : Nat) (p0 : Int32) (ou : Nat) (c1 : Nat) (ps1 : Nat) (lg : Nat) (cJ : ClassId) (sz : Nat) : Met l yL_directionOf wsL_directionOf ({ frames := 8, cells := 1, slots := 6, locals := 125 }) (va_Pc [.ref x, .int p0, .ref ou] (tw_Pre em kw kb D sz [(x, .inr (7, [.ref c1, .ref ps1, .ref lg, .int 9, .int 99, .int 0, .int 0, .int 0, .int ((-1)), .int 0, .int 0, .long 0])), (c1, .inr (3, [.int 0, .ref em, .int 0])), (ou, .inl (cJ, 1, .inr (.inl ((fun _ => 0)))))] [(cJ, .long)])) (va_Qi (fun (r : Int32) (u : tw_U) => r = 1 ∧ u = ([(ou, .inl (cJ, 1, .inr (.inl ((fun _ => 0)))))], [])) (tw_B D (va_A [(x, .inr (7, [.ref c1, .ref ps1, .ref lg, .int 9, .int 99, .int 0, .int 0, .int 0, .int ((-1)), .int 0, .int 0, .long 0])), (c1, .inr (3, [.int 0, .ref em, .int 0])), (ou, .inl (cJ, 1, .inr (.inl ((fun _ => 0)))))] sz)) (va_A [(x, .inr (7, [.ref c1, .ref ps1, .ref lg, .int 9, .int 99, .int 0, .int 0, .int 0, .int ((-1)), .int 0, .int 0, .long 0])), (c1, .inr (3, [.int 0, .ref em, .int 0])), (ou, .inl (cJ, 1, .inr (.inl ((fun _ => 0)))))] sz)) 1 6 (va_A [(x, .inr (7, [.ref c1, .ref ps1, .ref lg, .int 9, .int 99, .int 0, .int 0, .int 0, .int ((-1)), .int 0, .int 0, .long 0])), (c1, .inr (3, [.int 0, .ref em, .int 0])), (ou, .inl (cJ, 1, .inr (.inl ((fun _ => 0)))))] sz) := by
  refine va_MetW (cc := cL_directionOf) (maxL := 4) (ret := (some .int)) (hh := [(0, 9, 12, 35)]) (by decide) rfl ?_
  intro p e s m args below meth c s₁ B hml hv
  obtain ⟨rfl, hsz, hP, hK, hD0, hF⟩ := hv
  have hx := B.exec
  have hb := B.bytes
  have hr := B.returns
  have hts := atoms_spec (ws := wsL_directionOf) B.pre
  have hown : s.vm.findClass RL = some m.cls := findClass_of_methodNamed B.named
  have hlocks := B.notSynchronized
  have htab := vx_table (x := yL_directionOf) B (hts _ List.mem_cons_self)
  subst hsz
  have hD := hD0.self (sz := s.heap.size)
  generalize hAe : va_A [(x, .inr (7, [.ref c1, .ref ps1, .ref lg, .int 9, .int 99, .int 0, .int 0, .int 0, .int ((-1)), .int 0, .int 0, .long 0])), (c1, .inr (3, [.int 0, .ref em, .int 0])), (ou, .inl (cJ, 1, .inr (.inl ((fun _ => 0)))))] s.heap.size = A at hD hF ⊢
  have hA : ∀ q : Nat, s.heap.size ≤ q → A q := fun q h => by rw [← hAe]; exact Or.inr h
  have hS : va_S A s.heap s.heap [] := va_S.rf
  have hP : va_P D vwCl [(x, .inr (7, [.ref c1, .ref ps1, .ref lg, .int 9, .int 99, .int 0, .int 0, .int 0, .int ((-1)), .int 0, .int 0, .long 0])), (c1, .inr (3, [.int 0, .ref em, .int 0])), (ou, .inl (cJ, 1, .inr (.inl ((fun _ => 0)))))] s.heap := hP
  have hl := lv_entry ([.ref x, .int p0, .ref ou]) (n := 4) (Nat.le_of_ble_eq_true rfl)
  rw [lg_entry_eq]
  generalize (lg_sl ([.ref x, .int p0, .ref ou]) ++ List.replicate (4 - (lg_sl ([.ref x, .int p0, .ref ou])).length) Slot.unset).toArray = ls at hl ⊢
  have hl : lv_has ls 4 [(0, .ref x), (1, .int p0), (2, .ref ou)] := hl
  refine lv_aload_n hx hb dL_directionOf_0 rfl (lv_at hl 2 rfl) ?_
  refine lv_iconst (v := 0) hx hb dL_directionOf_1 (by decide) ?_
  refine lv_aload_n hx hb dL_directionOf_2 rfl (lv_at hl 0 rfl) ?_
  refine lv_iload_n hx hb dL_directionOf_3 rfl (lv_at hl 1 rfl) ?_
  have hPc := hP.sub (ws' := [(x, .inr (7, [.ref c1, .ref ps1, .ref lg, .int 9, .int 99, .int 0, .int 0, .int 0, .int ((-1)), .int 0, .int 0, .long 0])), (c1, .inr (3, [.int 0, .ref em, .int 0]))]) [0, 1] rfl
  have hDc := hD.sub (ws' := [(x, .inr (7, [.ref c1, .ref ps1, .ref lg, .int 9, .int 99, .int 0, .int 0, .int 0, .int ((-1)), .int 0, .int 0, .long 0])), (c1, .inr (3, [.int 0, .ref em, .int 0]))]) [0, 1] (by decide) rfl
  have hKc := hK.sub (tys' := []) [] rfl
  have hFc := va_free (wc := [(x, .inr (7, [.ref c1, .ref ps1, .ref lg, .int 9, .int 99, .int 0, .int 0, .int 0, .int ((-1)), .int 0, .int 0, .long 0])), (c1, .inr (3, [.int 0, .ref em, .int 0]))]) hD hS hA [0, 1] rfl
  refine vx_calli (vx_runV (As := [.int p0]) (rest := [.int 0, .ref ou]) ⟨hx, hb, hml, hown, hts⟩ (c_X3_directionOf l hst em kw kb D x p0 c1 ps1 lg _) (cwV 1 hts gL_directionOf_X3_directionOf rfl rfl rfl (by decide +kernel) ⟨(Nat.le_of_ble_eq_true rfl), (Nat.le_of_ble_eq_true rfl)⟩) (tw_preV hF hS hFc hPc hKc hDc (va_recv hKc hPc (ci := 7) (q0 := 0) rfl rfl)) rfl rfl hl.1 rfl (lv_room (Nat.le_of_ble_eq_true rfl)) dL_directionOf_4 ⟨(Nat.le_of_ble_eq_true rfl), (Nat.le_of_ble_eq_true rfl)⟩) hS (fun q _ h => hFc q h) hFc (fun q _ h => hFc q h) (fun E ce q9 u t H locs ht hvm hw hB hz1 hk1 hS hce hcv hcl => ?_) (fun r u t H locs ht hvm hw hB hz1 hk1 hS => ?_)
  · obtain ⟨hE, hB⟩ := hB
    subst hw
    subst hE
    obtain ⟨hP, hD, hK⟩ := tw_join (wr := [(ou, .inl (cJ, 1, .inr (.inl ((fun _ => 0)))))]) hP hD hK [0, 1] [2] rfl rfl (by decide) (by decide) hk1 hFc ht hvm hB
    have hP : va_P D vwCl [(ou, .inl (cJ, 1, .inr (.inl ((fun _ => 0)))))] _ := hP
    have hD : va_D A [(ou, .inl (cJ, 1, .inr (.inl ((fun _ => 0)))))] := hD
    have hK : va_K D vwCl [(cJ, .long)] s := hK
    refine vx_catch (name := "java/lang/IndexOutOfBoundsException") hown [] (ExceptionTableEntry.mk 0 9 12 35) [] (by rw [htab]; rfl) (List.forall_mem_nil _) (by decide) (by decide) (hts (.classLink RL 35 "java/lang/IndexOutOfBoundsException") (by decide +kernel)) (tw_cs hF (q := ("java/lang/IndexOutOfBoundsException", "java/lang/IndexOutOfBoundsException")) (by decide)) hce hcv hcl ?_
    refine W.widen (k := 1) (n := 6) (Nat.le_refl _) (Nat.le_refl _) ?_
    refine W.eq (g2 := F0 m 12 ls [.ref q9]) rfl ?_
    refine lv_astore_n (lv' := [(3, .ref q9), (0, .ref x), (1, .int p0), (2, .ref ou)]) hx hb dL_directionOf_12 rfl hl (by decide) rfl (fun ls hl => ?_)
    refine lv_iconst (v := 1) hx hb dL_directionOf_13 (by decide) ?_
    refine W.widen (k := 1) (n := 6) (Nat.le_of_ble_eq_true rfl) (Nat.le_of_ble_eq_true rfl) ?_
    have hP9 := hP.sub (ws' := [(ou, .inl (cJ, 1, .inr (.inl ((fun _ => 0)))))]) [0] rfl
    have hD9 := hD.sub (ws' := [(ou, .inl (cJ, 1, .inr (.inl ((fun _ => 0)))))]) [0] (by decide) rfl
    have hK9 := hK.sub (tys' := []) [] rfl
    exact W.iret (v := 1) hx hb hr (fun t ht hW => ⟨⟨1, ([(ou, .inl (cJ, 1, .inr (.inl ((fun _ => 0)))))], []), rfl, ⟨rfl, rfl⟩, by rw [ht]; exact hP9, va_K.moved hW.alike hK9, hD9⟩, hS.F ht⟩) hS.2.2 dL_directionOf_14
  · exact hw.elim
set_option maxHeartbeats 4000000 in
set_option maxRecDepth 100000 in
theorem c_L_isOpen (l : Launch) (hst : l.stackTraces = false) (em kw kb : Nat) (D : va_G) (x : Nat) (p0 : Int32) (ou : Nat) (c1 : Nat) (ps1 : Nat) (lg : Nat) (cJ : ClassId) (sz : Nat) : Met l yL_isOpen wsL_isOpen ({ frames := 8, cells := 1, slots := 6, locals := 124 }) (va_Pc [.ref x, .int p0, .ref ou] (tw_Pre em kw kb D sz [(x, .inr (7, [.ref c1, .ref ps1, .ref lg, .int 9, .int 99, .int 0, .int 0, .int 0, .int ((-1)), .int 0, .int 0, .long 0])), (c1, .inr (3, [.int 0, .ref em, .int 0])), (ou, .inl (cJ, 1, .inr (.inl ((fun _ => 0)))))] [(cJ, .long)])) (va_Qi (fun (r : Int32) (u : tw_U) => r = 1 ∧ u = ([(ou, .inl (cJ, 1, .inr (.inl ((fun _ => 0)))))], [])) (tw_B D (va_A [(x, .inr (7, [.ref c1, .ref ps1, .ref lg, .int 9, .int 99, .int 0, .int 0, .int 0, .int ((-1)), .int 0, .int 0, .long 0])), (c1, .inr (3, [.int 0, .ref em, .int 0])), (ou, .inl (cJ, 1, .inr (.inl ((fun _ => 0)))))] sz)) (va_A [(x, .inr (7, [.ref c1, .ref ps1, .ref lg, .int 9, .int 99, .int 0, .int 0, .int 0, .int ((-1)), .int 0, .int 0, .long 0])), (c1, .inr (3, [.int 0, .ref em, .int 0])), (ou, .inl (cJ, 1, .inr (.inl ((fun _ => 0)))))] sz)) 1 6 (va_A [(x, .inr (7, [.ref c1, .ref ps1, .ref lg, .int 9, .int 99, .int 0, .int 0, .int 0, .int ((-1)), .int 0, .int 0, .long 0])), (c1, .inr (3, [.int 0, .ref em, .int 0])), (ou, .inl (cJ, 1, .inr (.inl ((fun _ => 0)))))] sz) := by
  refine va_MetW (cc := cL_isOpen) (maxL := 4) (ret := (some .int)) (hh := [(0, 16, 19, 35)]) (by decide) rfl ?_
  intro p e s m args below meth c s₁ B hml hv
  obtain ⟨rfl, hsz, hP, hK, hD0, hF⟩ := hv
  have hx := B.exec
  have hb := B.bytes
  have hr := B.returns
  have hts := atoms_spec (ws := wsL_isOpen) B.pre
  have hown : s.vm.findClass RL = some m.cls := findClass_of_methodNamed B.named
  have hlocks := B.notSynchronized
  have htab := vx_table (x := yL_isOpen) B (hts _ List.mem_cons_self)
  subst hsz
  have hD := hD0.self (sz := s.heap.size)
  generalize hAe : va_A [(x, .inr (7, [.ref c1, .ref ps1, .ref lg, .int 9, .int 99, .int 0, .int 0, .int 0, .int ((-1)), .int 0, .int 0, .long 0])), (c1, .inr (3, [.int 0, .ref em, .int 0])), (ou, .inl (cJ, 1, .inr (.inl ((fun _ => 0)))))] s.heap.size = A at hD hF ⊢
  have hA : ∀ q : Nat, s.heap.size ≤ q → A q := fun q h => by rw [← hAe]; exact Or.inr h
  have hS : va_S A s.heap s.heap [] := va_S.rf
  have hP : va_P D vwCl [(x, .inr (7, [.ref c1, .ref ps1, .ref lg, .int 9, .int 99, .int 0, .int 0, .int 0, .int ((-1)), .int 0, .int 0, .long 0])), (c1, .inr (3, [.int 0, .ref em, .int 0])), (ou, .inl (cJ, 1, .inr (.inl ((fun _ => 0)))))] s.heap := hP
  have hl := lv_entry ([.ref x, .int p0, .ref ou]) (n := 4) (Nat.le_of_ble_eq_true rfl)
  rw [lg_entry_eq]
  generalize (lg_sl ([.ref x, .int p0, .ref ou]) ++ List.replicate (4 - (lg_sl ([.ref x, .int p0, .ref ou])).length) Slot.unset).toArray = ls at hl ⊢
  have hl : lv_has ls 4 [(0, .ref x), (1, .int p0), (2, .ref ou)] := hl
  refine lv_aload_n hx hb dL_isOpen_0 rfl (lv_at hl 2 rfl) ?_
  refine lv_iconst (v := 0) hx hb dL_isOpen_1 (by decide) ?_
  refine lv_aload_n hx hb dL_isOpen_2 rfl (lv_at hl 0 rfl) ?_
  refine lv_iload_n hx hb dL_isOpen_3 rfl (lv_at hl 1 rfl) ?_
  have hPc := hP.sub (ws' := [(x, .inr (7, [.ref c1, .ref ps1, .ref lg, .int 9, .int 99, .int 0, .int 0, .int 0, .int ((-1)), .int 0, .int 0, .long 0])), (c1, .inr (3, [.int 0, .ref em, .int 0]))]) [0, 1] rfl
  have hDc := hD.sub (ws' := [(x, .inr (7, [.ref c1, .ref ps1, .ref lg, .int 9, .int 99, .int 0, .int 0, .int 0, .int ((-1)), .int 0, .int 0, .long 0])), (c1, .inr (3, [.int 0, .ref em, .int 0]))]) [0, 1] (by decide) rfl
  have hKc := hK.sub (tys' := []) [] rfl
  have hFc := va_free (wc := [(x, .inr (7, [.ref c1, .ref ps1, .ref lg, .int 9, .int 99, .int 0, .int 0, .int 0, .int ((-1)), .int 0, .int 0, .long 0])), (c1, .inr (3, [.int 0, .ref em, .int 0]))]) hD hS hA [0, 1] rfl
  refine vx_calli (vx_runV (As := [.int p0]) (rest := [.int 0, .ref ou]) ⟨hx, hb, hml, hown, hts⟩ (c_X3_isOpen l hst em kw kb D x p0 c1 ps1 lg _) (cwV 1 hts gL_isOpen_X3_isOpen rfl rfl rfl (by decide +kernel) ⟨(Nat.le_of_ble_eq_true rfl), (Nat.le_of_ble_eq_true rfl)⟩) (tw_preV hF hS hFc hPc hKc hDc (va_recv hKc hPc (ci := 7) (q0 := 0) rfl rfl)) rfl rfl hl.1 rfl (lv_room (Nat.le_of_ble_eq_true rfl)) dL_isOpen_4 ⟨(Nat.le_of_ble_eq_true rfl), (Nat.le_of_ble_eq_true rfl)⟩) hS (fun q _ h => hFc q h) hFc (fun q _ h => hFc q h) (fun E ce q9 u t H locs ht hvm hw hB hz1 hk1 hS hce hcv hcl => ?_) (fun r u t H locs ht hvm hw hB hz1 hk1 hS => ?_)
  · obtain ⟨hE, hB⟩ := hB
    subst hw
    subst hE
    obtain ⟨hP, hD, hK⟩ := tw_join (wr := [(ou, .inl (cJ, 1, .inr (.inl ((fun _ => 0)))))]) hP hD hK [0, 1] [2] rfl rfl (by decide) (by decide) hk1 hFc ht hvm hB
    have hP : va_P D vwCl [(ou, .inl (cJ, 1, .inr (.inl ((fun _ => 0)))))] _ := hP
    have hD : va_D A [(ou, .inl (cJ, 1, .inr (.inl ((fun _ => 0)))))] := hD
    have hK : va_K D vwCl [(cJ, .long)] s := hK
    refine vx_catch (name := "java/lang/IndexOutOfBoundsException") hown [] (ExceptionTableEntry.mk 0 16 19 35) [] (by rw [htab]; rfl) (List.forall_mem_nil _) (by decide) (by decide) (hts (.classLink RL 35 "java/lang/IndexOutOfBoundsException") (by decide +kernel)) (tw_cs hF (q := ("java/lang/IndexOutOfBoundsException", "java/lang/IndexOutOfBoundsException")) (by decide)) hce hcv hcl ?_
    refine W.widen (k := 1) (n := 6) (Nat.le_refl _) (Nat.le_refl _) ?_
    refine W.eq (g2 := F0 m 19 ls [.ref q9]) rfl ?_
    refine lv_astore_n (lv' := [(3, .ref q9), (0, .ref x), (1, .int p0), (2, .ref ou)]) hx hb dL_isOpen_19 rfl hl (by decide) rfl (fun ls hl => ?_)
    refine lv_iconst (v := 1) hx hb dL_isOpen_20 (by decide) ?_
    refine W.widen (k := 1) (n := 6) (Nat.le_of_ble_eq_true rfl) (Nat.le_of_ble_eq_true rfl) ?_
    have hP9 := hP.sub (ws' := [(ou, .inl (cJ, 1, .inr (.inl ((fun _ => 0)))))]) [0] rfl
    have hD9 := hD.sub (ws' := [(ou, .inl (cJ, 1, .inr (.inl ((fun _ => 0)))))]) [0] (by decide) rfl
    have hK9 := hK.sub (tys' := []) [] rfl
    exact W.iret (v := 1) hx hb hr (fun t ht hW => ⟨⟨1, ([(ou, .inl (cJ, 1, .inr (.inl ((fun _ => 0)))))], []), rfl, ⟨rfl, rfl⟩, by rw [ht]; exact hP9, va_K.moved hW.alike hK9, hD9⟩, hS.F ht⟩) hS.2.2 dL_isOpen_21
  · exact hw.elim
set_option maxHeartbeats 4000000 in
set_option maxRecDepth 100000 in
theorem c_L_load (l : Launch) (hst : l.stackTraces = false) (em kw kb : Nat) (D : va_G) (x : Nat) (p0 : Int32) (ou : Nat) (c1 : Nat) (ps1 : Nat) (lg : Nat) (cJ : ClassId) (sz : Nat) : Met l yL_load wsL_load ({ frames := 8, cells := 1, slots := 6, locals := 124 }) (va_Pc [.ref x, .int p0, .ref ou] (tw_Pre em kw kb D sz [(x, .inr (7, [.ref c1, .ref ps1, .ref lg, .int 9, .int 99, .int 0, .int 0, .int 0, .int ((-1)), .int 0, .int 0, .long 0])), (c1, .inr (3, [.int 0, .ref em, .int 0])), (ou, .inl (cJ, 1, .inr (.inl ((fun _ => 0)))))] [(cJ, .long)])) (va_Qi (fun (r : Int32) (u : tw_U) => r = 1 ∧ u = ([(ou, .inl (cJ, 1, .inr (.inl ((fun _ => 0)))))], [])) (tw_B D (va_A [(x, .inr (7, [.ref c1, .ref ps1, .ref lg, .int 9, .int 99, .int 0, .int 0, .int 0, .int ((-1)), .int 0, .int 0, .long 0])), (c1, .inr (3, [.int 0, .ref em, .int 0])), (ou, .inl (cJ, 1, .inr (.inl ((fun _ => 0)))))] sz)) (va_A [(x, .inr (7, [.ref c1, .ref ps1, .ref lg, .int 9, .int 99, .int 0, .int 0, .int 0, .int ((-1)), .int 0, .int 0, .long 0])), (c1, .inr (3, [.int 0, .ref em, .int 0])), (ou, .inl (cJ, 1, .inr (.inl ((fun _ => 0)))))] sz)) 1 6 (va_A [(x, .inr (7, [.ref c1, .ref ps1, .ref lg, .int 9, .int 99, .int 0, .int 0, .int 0, .int ((-1)), .int 0, .int 0, .long 0])), (c1, .inr (3, [.int 0, .ref em, .int 0])), (ou, .inl (cJ, 1, .inr (.inl ((fun _ => 0)))))] sz) := by
  refine va_MetW (cc := cL_load) (maxL := 4) (ret := (some .int)) (hh := [(0, 9, 12, 35)]) (by decide) rfl ?_
  intro p e s m args below meth c s₁ B hml hv
  obtain ⟨rfl, hsz, hP, hK, hD0, hF⟩ := hv
  have hx := B.exec
  have hb := B.bytes
  have hr := B.returns
  have hts := atoms_spec (ws := wsL_load) B.pre
  have hown : s.vm.findClass RL = some m.cls := findClass_of_methodNamed B.named
  have hlocks := B.notSynchronized
  have htab := vx_table (x := yL_load) B (hts _ List.mem_cons_self)
  subst hsz
  have hD := hD0.self (sz := s.heap.size)
  generalize hAe : va_A [(x, .inr (7, [.ref c1, .ref ps1, .ref lg, .int 9, .int 99, .int 0, .int 0, .int 0, .int ((-1)), .int 0, .int 0, .long 0])), (c1, .inr (3, [.int 0, .ref em, .int 0])), (ou, .inl (cJ, 1, .inr (.inl ((fun _ => 0)))))] s.heap.size = A at hD hF ⊢
  have hA : ∀ q : Nat, s.heap.size ≤ q → A q := fun q h => by rw [← hAe]; exact Or.inr h
  have hS : va_S A s.heap s.heap [] := va_S.rf
  have hP : va_P D vwCl [(x, .inr (7, [.ref c1, .ref ps1, .ref lg, .int 9, .int 99, .int 0, .int 0, .int 0, .int ((-1)), .int 0, .int 0, .long 0])), (c1, .inr (3, [.int 0, .ref em, .int 0])), (ou, .inl (cJ, 1, .inr (.inl ((fun _ => 0)))))] s.heap := hP
  have hl := lv_entry ([.ref x, .int p0, .ref ou]) (n := 4) (Nat.le_of_ble_eq_true rfl)
  rw [lg_entry_eq]
  generalize (lg_sl ([.ref x, .int p0, .ref ou]) ++ List.replicate (4 - (lg_sl ([.ref x, .int p0, .ref ou])).length) Slot.unset).toArray = ls at hl ⊢
  have hl : lv_has ls 4 [(0, .ref x), (1, .int p0), (2, .ref ou)] := hl
  refine lv_aload_n hx hb dL_load_0 rfl (lv_at hl 2 rfl) ?_
  refine lv_iconst (v := 0) hx hb dL_load_1 (by decide) ?_
  refine lv_aload_n hx hb dL_load_2 rfl (lv_at hl 0 rfl) ?_
  refine lv_iload_n hx hb dL_load_3 rfl (lv_at hl 1 rfl) ?_
  have hPc := hP.sub (ws' := [(x, .inr (7, [.ref c1, .ref ps1, .ref lg, .int 9, .int 99, .int 0, .int 0, .int 0, .int ((-1)), .int 0, .int 0, .long 0])), (c1, .inr (3, [.int 0, .ref em, .int 0]))]) [0, 1] rfl
  have hDc := hD.sub (ws' := [(x, .inr (7, [.ref c1, .ref ps1, .ref lg, .int 9, .int 99, .int 0, .int 0, .int 0, .int ((-1)), .int 0, .int 0, .long 0])), (c1, .inr (3, [.int 0, .ref em, .int 0]))]) [0, 1] (by decide) rfl
  have hKc := hK.sub (tys' := []) [] rfl
  have hFc := va_free (wc := [(x, .inr (7, [.ref c1, .ref ps1, .ref lg, .int 9, .int 99, .int 0, .int 0, .int 0, .int ((-1)), .int 0, .int 0, .long 0])), (c1, .inr (3, [.int 0, .ref em, .int 0]))]) hD hS hA [0, 1] rfl
  refine vx_calli (vx_runV (As := [.int p0]) (rest := [.int 0, .ref ou]) ⟨hx, hb, hml, hown, hts⟩ (c_X3_load l hst em kw kb D x p0 c1 ps1 lg _) (cwV 1 hts gL_load_X3_load rfl rfl rfl (by decide +kernel) ⟨(Nat.le_of_ble_eq_true rfl), (Nat.le_of_ble_eq_true rfl)⟩) (tw_preV hF hS hFc hPc hKc hDc (va_recv hKc hPc (ci := 7) (q0 := 0) rfl rfl)) rfl rfl hl.1 rfl (lv_room (Nat.le_of_ble_eq_true rfl)) dL_load_4 ⟨(Nat.le_of_ble_eq_true rfl), (Nat.le_of_ble_eq_true rfl)⟩) hS (fun q _ h => hFc q h) hFc (fun q _ h => hFc q h) (fun E ce q9 u t H locs ht hvm hw hB hz1 hk1 hS hce hcv hcl => ?_) (fun r u t H locs ht hvm hw hB hz1 hk1 hS => ?_)
  · obtain ⟨hE, hB⟩ := hB
    subst hw
    subst hE
    obtain ⟨hP, hD, hK⟩ := tw_join (wr := [(ou, .inl (cJ, 1, .inr (.inl ((fun _ => 0)))))]) hP hD hK [0, 1] [2] rfl rfl (by decide) (by decide) hk1 hFc ht hvm hB
    have hP : va_P D vwCl [(ou, .inl (cJ, 1, .inr (.inl ((fun _ => 0)))))] _ := hP
    have hD : va_D A [(ou, .inl (cJ, 1, .inr (.inl ((fun _ => 0)))))] := hD
    have hK : va_K D vwCl [(cJ, .long)] s := hK
    refine vx_catch (name := "java/lang/IndexOutOfBoundsException") hown [] (ExceptionTableEntry.mk 0 9 12 35) [] (by rw [htab]; rfl) (List.forall_mem_nil _) (by decide) (by decide) (hts (.classLink RL 35 "java/lang/IndexOutOfBoundsException") (by decide +kernel)) (tw_cs hF (q := ("java/lang/IndexOutOfBoundsException", "java/lang/IndexOutOfBoundsException")) (by decide)) hce hcv hcl ?_
    refine W.widen (k := 1) (n := 6) (Nat.le_refl _) (Nat.le_refl _) ?_
    refine W.eq (g2 := F0 m 12 ls [.ref q9]) rfl ?_
    refine lv_astore_n (lv' := [(3, .ref q9), (0, .ref x), (1, .int p0), (2, .ref ou)]) hx hb dL_load_12 rfl hl (by decide) rfl (fun ls hl => ?_)
    refine lv_iconst (v := 1) hx hb dL_load_13 (by decide) ?_
    refine W.widen (k := 1) (n := 6) (Nat.le_of_ble_eq_true rfl) (Nat.le_of_ble_eq_true rfl) ?_
    have hP9 := hP.sub (ws' := [(ou, .inl (cJ, 1, .inr (.inl ((fun _ => 0)))))]) [0] rfl
    have hD9 := hD.sub (ws' := [(ou, .inl (cJ, 1, .inr (.inl ((fun _ => 0)))))]) [0] (by decide) rfl
    have hK9 := hK.sub (tys' := []) [] rfl
    exact W.iret (v := 1) hx hb hr (fun t ht hW => ⟨⟨1, ([(ou, .inl (cJ, 1, .inr (.inl ((fun _ => 0)))))], []), rfl, ⟨rfl, rfl⟩, by rw [ht]; exact hP9, va_K.moved hW.alike hK9, hD9⟩, hS.F ht⟩) hS.2.2 dL_load_14
  · exact hw.elim
set_option maxHeartbeats 4000000 in
set_option maxRecDepth 100000 in
theorem c_L_stops (l : Launch) (hst : l.stackTraces = false) (em kw kb : Nat) (D : va_G) (x : Nat) (p0 : Int32) (ou : Nat) (c1 : Nat) (ps1 : Nat) (lg : Nat) (cJ : ClassId) (sz : Nat) : Met l yL_stops wsL_stops ({ frames := 8, cells := 1, slots := 6, locals := 124 }) (va_Pc [.ref x, .int p0, .ref ou] (tw_Pre em kw kb D sz [(x, .inr (7, [.ref c1, .ref ps1, .ref lg, .int 9, .int 99, .int 0, .int 0, .int 0, .int ((-1)), .int 0, .int 0, .long 0])), (c1, .inr (3, [.int 0, .ref em, .int 0])), (ou, .inl (cJ, 1, .inr (.inl ((fun _ => 0)))))] [(cJ, .long)])) (va_Qi (fun (r : Int32) (u : tw_U) => r = 1 ∧ u = ([(ou, .inl (cJ, 1, .inr (.inl ((fun _ => 0)))))], [])) (tw_B D (va_A [(x, .inr (7, [.ref c1, .ref ps1, .ref lg, .int 9, .int 99, .int 0, .int 0, .int 0, .int ((-1)), .int 0, .int 0, .long 0])), (c1, .inr (3, [.int 0, .ref em, .int 0])), (ou, .inl (cJ, 1, .inr (.inl ((fun _ => 0)))))] sz)) (va_A [(x, .inr (7, [.ref c1, .ref ps1, .ref lg, .int 9, .int 99, .int 0, .int 0, .int 0, .int ((-1)), .int 0, .int 0, .long 0])), (c1, .inr (3, [.int 0, .ref em, .int 0])), (ou, .inl (cJ, 1, .inr (.inl ((fun _ => 0)))))] sz)) 1 6 (va_A [(x, .inr (7, [.ref c1, .ref ps1, .ref lg, .int 9, .int 99, .int 0, .int 0, .int 0, .int ((-1)), .int 0, .int 0, .long 0])), (c1, .inr (3, [.int 0, .ref em, .int 0])), (ou, .inl (cJ, 1, .inr (.inl ((fun _ => 0)))))] sz) := by
  refine va_MetW (cc := cL_stops) (maxL := 4) (ret := (some .int)) (hh := [(0, 9, 12, 35)]) (by decide) rfl ?_
  intro p e s m args below meth c s₁ B hml hv
  obtain ⟨rfl, hsz, hP, hK, hD0, hF⟩ := hv
  have hx := B.exec
  have hb := B.bytes
  have hr := B.returns
  have hts := atoms_spec (ws := wsL_stops) B.pre
  have hown : s.vm.findClass RL = some m.cls := findClass_of_methodNamed B.named
  have hlocks := B.notSynchronized
  have htab := vx_table (x := yL_stops) B (hts _ List.mem_cons_self)
  subst hsz
  have hD := hD0.self (sz := s.heap.size)
  generalize hAe : va_A [(x, .inr (7, [.ref c1, .ref ps1, .ref lg, .int 9, .int 99, .int 0, .int 0, .int 0, .int ((-1)), .int 0, .int 0, .long 0])), (c1, .inr (3, [.int 0, .ref em, .int 0])), (ou, .inl (cJ, 1, .inr (.inl ((fun _ => 0)))))] s.heap.size = A at hD hF ⊢
  have hA : ∀ q : Nat, s.heap.size ≤ q → A q := fun q h => by rw [← hAe]; exact Or.inr h
  have hS : va_S A s.heap s.heap [] := va_S.rf
  have hP : va_P D vwCl [(x, .inr (7, [.ref c1, .ref ps1, .ref lg, .int 9, .int 99, .int 0, .int 0, .int 0, .int ((-1)), .int 0, .int 0, .long 0])), (c1, .inr (3, [.int 0, .ref em, .int 0])), (ou, .inl (cJ, 1, .inr (.inl ((fun _ => 0)))))] s.heap := hP
  have hl := lv_entry ([.ref x, .int p0, .ref ou]) (n := 4) (Nat.le_of_ble_eq_true rfl)
  rw [lg_entry_eq]
  generalize (lg_sl ([.ref x, .int p0, .ref ou]) ++ List.replicate (4 - (lg_sl ([.ref x, .int p0, .ref ou])).length) Slot.unset).toArray = ls at hl ⊢
  have hl : lv_has ls 4 [(0, .ref x), (1, .int p0), (2, .ref ou)] := hl
  refine lv_aload_n hx hb dL_stops_0 rfl (lv_at hl 2 rfl) ?_
  refine lv_iconst (v := 0) hx hb dL_stops_1 (by decide) ?_
  refine lv_aload_n hx hb dL_stops_2 rfl (lv_at hl 0 rfl) ?_
  refine lv_iload_n hx hb dL_stops_3 rfl (lv_at hl 1 rfl) ?_
  have hPc := hP.sub (ws' := [(x, .inr (7, [.ref c1, .ref ps1, .ref lg, .int 9, .int 99, .int 0, .int 0, .int 0, .int ((-1)), .int 0, .int 0, .long 0])), (c1, .inr (3, [.int 0, .ref em, .int 0]))]) [0, 1] rfl
  have hDc := hD.sub (ws' := [(x, .inr (7, [.ref c1, .ref ps1, .ref lg, .int 9, .int 99, .int 0, .int 0, .int 0, .int ((-1)), .int 0, .int 0, .long 0])), (c1, .inr (3, [.int 0, .ref em, .int 0]))]) [0, 1] (by decide) rfl
  have hKc := hK.sub (tys' := []) [] rfl
  have hFc := va_free (wc := [(x, .inr (7, [.ref c1, .ref ps1, .ref lg, .int 9, .int 99, .int 0, .int 0, .int 0, .int ((-1)), .int 0, .int 0, .long 0])), (c1, .inr (3, [.int 0, .ref em, .int 0]))]) hD hS hA [0, 1] rfl
  refine vx_calli (vx_runV (As := [.int p0]) (rest := [.int 0, .ref ou]) ⟨hx, hb, hml, hown, hts⟩ (c_X3_stops l hst em kw kb D x p0 c1 ps1 lg _) (cwV 1 hts gL_stops_X3_stops rfl rfl rfl (by decide +kernel) ⟨(Nat.le_of_ble_eq_true rfl), (Nat.le_of_ble_eq_true rfl)⟩) (tw_preV hF hS hFc hPc hKc hDc (va_recv hKc hPc (ci := 7) (q0 := 0) rfl rfl)) rfl rfl hl.1 rfl (lv_room (Nat.le_of_ble_eq_true rfl)) dL_stops_4 ⟨(Nat.le_of_ble_eq_true rfl), (Nat.le_of_ble_eq_true rfl)⟩) hS (fun q _ h => hFc q h) hFc (fun q _ h => hFc q h) (fun E ce q9 u t H locs ht hvm hw hB hz1 hk1 hS hce hcv hcl => ?_) (fun r u t H locs ht hvm hw hB hz1 hk1 hS => ?_)
  · obtain ⟨hE, hB⟩ := hB
    subst hw
    subst hE
    obtain ⟨hP, hD, hK⟩ := tw_join (wr := [(ou, .inl (cJ, 1, .inr (.inl ((fun _ => 0)))))]) hP hD hK [0, 1] [2] rfl rfl (by decide) (by decide) hk1 hFc ht hvm hB
    have hP : va_P D vwCl [(ou, .inl (cJ, 1, .inr (.inl ((fun _ => 0)))))] _ := hP
    have hD : va_D A [(ou, .inl (cJ, 1, .inr (.inl ((fun _ => 0)))))] := hD
    have hK : va_K D vwCl [(cJ, .long)] s := hK
    refine vx_catch (name := "java/lang/IndexOutOfBoundsException") hown [] (ExceptionTableEntry.mk 0 9 12 35) [] (by rw [htab]; rfl) (List.forall_mem_nil _) (by decide) (by decide) (hts (.classLink RL 35 "java/lang/IndexOutOfBoundsException") (by decide +kernel)) (tw_cs hF (q := ("java/lang/IndexOutOfBoundsException", "java/lang/IndexOutOfBoundsException")) (by decide)) hce hcv hcl ?_
    refine W.widen (k := 1) (n := 6) (Nat.le_refl _) (Nat.le_refl _) ?_
    refine W.eq (g2 := F0 m 12 ls [.ref q9]) rfl ?_
    refine lv_astore_n (lv' := [(3, .ref q9), (0, .ref x), (1, .int p0), (2, .ref ou)]) hx hb dL_stops_12 rfl hl (by decide) rfl (fun ls hl => ?_)
    refine lv_iconst (v := 1) hx hb dL_stops_13 (by decide) ?_
    refine W.widen (k := 1) (n := 6) (Nat.le_of_ble_eq_true rfl) (Nat.le_of_ble_eq_true rfl) ?_
    have hP9 := hP.sub (ws' := [(ou, .inl (cJ, 1, .inr (.inl ((fun _ => 0)))))]) [0] rfl
    have hD9 := hD.sub (ws' := [(ou, .inl (cJ, 1, .inr (.inl ((fun _ => 0)))))]) [0] (by decide) rfl
    have hK9 := hK.sub (tys' := []) [] rfl
    exact W.iret (v := 1) hx hb hr (fun t ht hW => ⟨⟨1, ([(ou, .inl (cJ, 1, .inr (.inl ((fun _ => 0)))))], []), rfl, ⟨rfl, rfl⟩, by rw [ht]; exact hP9, va_K.moved hW.alike hK9, hD9⟩, hS.F ht⟩) hS.2.2 dL_stops_14
  · exact hw.elim
set_option maxHeartbeats 4000000 in
set_option maxRecDepth 100000 in
theorem c_L_timeFor (l : Launch) (hst : l.stackTraces = false) (em kw kb : Nat) (D : va_G) (x : Nat) (p0 : Int32) (p1 : Int32) (p2 : Int32) (ou : Nat) (c1 : Nat) (ps1 : Nat) (lg : Nat) (cJ : ClassId) (sz : Nat) : Met l yL_timeFor wsL_timeFor ({ frames := 8, cells := 1, slots := 6, locals := 127 }) (va_Pc [.ref x, .int p0, .int p1, .int p2, .ref ou] (tw_Pre em kw kb D sz [(x, .inr (7, [.ref c1, .ref ps1, .ref lg, .int 9, .int 99, .int 0, .int 0, .int 0, .int ((-1)), .int 0, .int 0, .long 0])), (c1, .inr (3, [.int 0, .ref em, .int 0])), (ou, .inl (cJ, 1, .inr (.inl ((fun _ => 0)))))] [(cJ, .long)])) (va_Qi (fun (r : Int32) (u : tw_U) => r = 1 ∧ u = ([(ou, .inl (cJ, 1, .inr (.inl ((fun _ => 0)))))], [])) (tw_B D (va_A [(x, .inr (7, [.ref c1, .ref ps1, .ref lg, .int 9, .int 99, .int 0, .int 0, .int 0, .int ((-1)), .int 0, .int 0, .long 0])), (c1, .inr (3, [.int 0, .ref em, .int 0])), (ou, .inl (cJ, 1, .inr (.inl ((fun _ => 0)))))] sz)) (va_A [(x, .inr (7, [.ref c1, .ref ps1, .ref lg, .int 9, .int 99, .int 0, .int 0, .int 0, .int ((-1)), .int 0, .int 0, .long 0])), (c1, .inr (3, [.int 0, .ref em, .int 0])), (ou, .inl (cJ, 1, .inr (.inl ((fun _ => 0)))))] sz)) 1 6 (va_A [(x, .inr (7, [.ref c1, .ref ps1, .ref lg, .int 9, .int 99, .int 0, .int 0, .int 0, .int ((-1)), .int 0, .int 0, .long 0])), (c1, .inr (3, [.int 0, .ref em, .int 0])), (ou, .inl (cJ, 1, .inr (.inl ((fun _ => 0)))))] sz) := by
  refine va_MetW (cc := cL_timeFor) (maxL := 6) (ret := (some .int)) (hh := [(0, 12, 15, 35), (0, 12, 19, 13)]) (by decide) rfl ?_
  intro p e s m args below meth c s₁ B hml hv
  obtain ⟨rfl, hsz, hP, hK, hD0, hF⟩ := hv
  have hx := B.exec
  have hb := B.bytes
  have hr := B.returns
  have hts := atoms_spec (ws := wsL_timeFor) B.pre
  have hown : s.vm.findClass RL = some m.cls := findClass_of_methodNamed B.named
  have hlocks := B.notSynchronized
  have htab := vx_table (x := yL_timeFor) B (hts _ List.mem_cons_self)
  subst hsz
  have hD := hD0.self (sz := s.heap.size)
  generalize hAe : va_A [(x, .inr (7, [.ref c1, .ref ps1, .ref lg, .int 9, .int 99, .int 0, .int 0, .int 0, .int ((-1)), .int 0, .int 0, .long 0])), (c1, .inr (3, [.int 0, .ref em, .int 0])), (ou, .inl (cJ, 1, .inr (.inl ((fun _ => 0)))))] s.heap.size = A at hD hF ⊢
  have hA : ∀ q : Nat, s.heap.size ≤ q → A q := fun q h => by rw [← hAe]; exact Or.inr h
  have hS : va_S A s.heap s.heap [] := va_S.rf
  have hP : va_P D vwCl [(x, .inr (7, [.ref c1, .ref ps1, .ref lg, .int 9, .int 99, .int 0, .int 0, .int 0, .int ((-1)), .int 0, .int 0, .long 0])), (c1, .inr (3, [.int 0, .ref em, .int 0])), (ou, .inl (cJ, 1, .inr (.inl ((fun _ => 0)))))] s.heap := hP
  have hl := lv_entry ([.ref x, .int p0, .int p1, .int p2, .ref ou]) (n := 6) (Nat.le_of_ble_eq_true rfl)
  rw [lg_entry_eq]
  generalize (lg_sl ([.ref x, .int p0, .int p1, .int p2, .ref ou]) ++ List.replicate (6 - (lg_sl ([.ref x, .int p0, .int p1, .int p2, .ref ou])).length) Slot.unset).toArray = ls at hl ⊢
  have hl : lv_has ls 6 [(0, .ref x), (1, .int p0), (2, .int p1), (3, .int p2), (4, .ref ou)] := hl
  refine lv_aload hx hb dL_timeFor_0 (lv_at hl 4 rfl) ?_
  refine lv_iconst (v := 0) hx hb dL_timeFor_2 (by decide) ?_
  refine lv_aload_n hx hb dL_timeFor_3 rfl (lv_at hl 0 rfl) ?_
  refine lv_iload_n hx hb dL_timeFor_4 rfl (lv_at hl 1 rfl) ?_
  refine lv_iload_n hx hb dL_timeFor_5 rfl (lv_at hl 2 rfl) ?_
  refine lv_iload_n hx hb dL_timeFor_6 rfl (lv_at hl 3 rfl) ?_
  have hPc := hP.sub (ws' := [(x, .inr (7, [.ref c1, .ref ps1, .ref lg, .int 9, .int 99, .int 0, .int 0, .int 0, .int ((-1)), .int 0, .int 0, .long 0])), (c1, .inr (3, [.int 0, .ref em, .int 0]))]) [0, 1] rfl
  have hDc := hD.sub (ws' := [(x, .inr (7, [.ref c1, .ref ps1, .ref lg, .int 9, .int 99, .int 0, .int 0, .int 0, .int ((-1)), .int 0, .int 0, .long 0])), (c1, .inr (3, [.int 0, .ref em, .int 0]))]) [0, 1] (by decide) rfl
  have hKc := hK.sub (tys' := []) [] rfl
  have hFc := va_free (wc := [(x, .inr (7, [.ref c1, .ref ps1, .ref lg, .int 9, .int 99, .int 0, .int 0, .int 0, .int ((-1)), .int 0, .int 0, .long 0])), (c1, .inr (3, [.int 0, .ref em, .int 0]))]) hD hS hA [0, 1] rfl
  refine vx_calli (vx_runV (As := [.int p0, .int p1, .int p2]) (rest := [.int 0, .ref ou]) ⟨hx, hb, hml, hown, hts⟩ (c_X3_timeFor l hst em kw kb D x p0 p1 p2 c1 ps1 lg _) (cwV 3 hts gL_timeFor_X3_timeFor rfl rfl rfl (by decide +kernel) ⟨(Nat.le_of_ble_eq_true rfl), (Nat.le_of_ble_eq_true rfl)⟩) (tw_preV hF hS hFc hPc hKc hDc (va_recv hKc hPc (ci := 7) (q0 := 0) rfl rfl)) rfl rfl hl.1 rfl (lv_room (Nat.le_of_ble_eq_true rfl)) dL_timeFor_7 ⟨(Nat.le_of_ble_eq_true rfl), (Nat.le_of_ble_eq_true rfl)⟩) hS (fun q _ h => hFc q h) hFc (fun q _ h => hFc q h) (fun E ce q9 u t H locs ht hvm hw hB hz1 hk1 hS hce hcv hcl => ?_) (fun r u t H locs ht hvm hw hB hz1 hk1 hS => ?_)
  · obtain ⟨hE, hB⟩ := hB
    subst hw
    subst hE
    obtain ⟨hP, hD, hK⟩ := tw_join (wr := [(ou, .inl (cJ, 1, .inr (.inl ((fun _ => 0)))))]) hP hD hK [0, 1] [2] rfl rfl (by decide) (by decide) hk1 hFc ht hvm hB
    have hP : va_P D vwCl [(ou, .inl (cJ, 1, .inr (.inl ((fun _ => 0)))))] _ := hP
    have hD : va_D A [(ou, .inl (cJ, 1, .inr (.inl ((fun _ => 0)))))] := hD
    have hK : va_K D vwCl [(cJ, .long)] s := hK
    refine vx_catch (name := "java/lang/IndexOutOfBoundsException") hown [] (ExceptionTableEntry.mk 0 12 15 35) [ExceptionTableEntry.mk 0 12 19 13] (by rw [htab]; rfl) (List.forall_mem_nil _) (by decide) (by decide) (hts (.classLink RL 35 "java/lang/IndexOutOfBoundsException") (by decide +kernel)) (tw_cs hF (q := ("java/lang/IndexOutOfBoundsException", "java/lang/IndexOutOfBoundsException")) (by decide)) hce hcv hcl ?_
    refine W.widen (k := 1) (n := 6) (Nat.le_refl _) (Nat.le_refl _) ?_
    refine W.eq (g2 := F0 m 15 ls [.ref q9]) rfl ?_
    refine lv_astore (lv' := [(5, .ref q9), (0, .ref x), (1, .int p0), (2, .int p1), (3, .int p2), (4, .ref ou)]) hx hb dL_timeFor_15 hl (by decide) rfl (fun ls hl => ?_)
    refine lv_iconst (v := 1) hx hb dL_timeFor_17 (by decide) ?_
    refine W.widen (k := 1) (n := 6) (Nat.le_of_ble_eq_true rfl) (Nat.le_of_ble_eq_true rfl) ?_
    have hP9 := hP.sub (ws' := [(ou, .inl (cJ, 1, .inr (.inl ((fun _ => 0)))))]) [0] rfl
    have hD9 := hD.sub (ws' := [(ou, .inl (cJ, 1, .inr (.inl ((fun _ => 0)))))]) [0] (by decide) rfl
    have hK9 := hK.sub (tys' := []) [] rfl
    exact W.iret (v := 1) hx hb hr (fun t ht hW => ⟨⟨1, ([(ou, .inl (cJ, 1, .inr (.inl ((fun _ => 0)))))], []), rfl, ⟨rfl, rfl⟩, by rw [ht]; exact hP9, va_K.moved hW.alike hK9, hD9⟩, hS.F ht⟩) hS.2.2 dL_timeFor_18
  · exact hw.elim
set_option maxHeartbeats 4000000 in
set_option maxRecDepth 100000 in
theorem c_L_priceFor (l : Launch) (hst : l.stackTraces = false) (em kw kb : Nat) (D : va_G) (x : Nat) (p0 : Int32) (p1 : Int32) (p2 : Int32) (ou : Nat) (c1 : Nat) (ps1 : Nat) (lg : Nat) (cJ : ClassId) (sz : Nat) : Met l yL_priceFor wsL_priceFor ({ frames := 8, cells := 1, slots := 6, locals := 127 }) (va_Pc [.ref x, .int p0, .int p1, .int p2, .ref ou] (tw_Pre em kw kb D sz [(x, .inr (7, [.ref c1, .ref ps1, .ref lg, .int 9, .int 99, .int 0, .int 0, .int 0, .int ((-1)), .int 0, .int 0, .long 0])), (c1, .inr (3, [.int 0, .ref em, .int 0])), (ou, .inl (cJ, 1, .inr (.inl ((fun _ => 0)))))] [(cJ, .long)])) (va_Qi (fun (r : Int32) (u : tw_U) => r = 1 ∧ u = ([(ou, .inl (cJ, 1, .inr (.inl ((fun _ => 0)))))], [])) (tw_B D (va_A [(x, .inr (7, [.ref c1, .ref ps1, .ref lg, .int 9, .int 99, .int 0, .int 0, .int 0, .int ((-1)), .int 0, .int 0, .long 0])), (c1, .inr (3, [.int 0, .ref em, .int 0])), (ou, .inl (cJ, 1, .inr (.inl ((fun _ => 0)))))] sz)) (va_A [(x, .inr (7, [.ref c1, .ref ps1, .ref lg, .int 9, .int 99, .int 0, .int 0, .int 0, .int ((-1)), .int 0, .int 0, .long 0])), (c1, .inr (3, [.int 0, .ref em, .int 0])), (ou, .inl (cJ, 1, .inr (.inl ((fun _ => 0)))))] sz)) 1 6 (va_A [(x, .inr (7, [.ref c1, .ref ps1, .ref lg, .int 9, .int 99, .int 0, .int 0, .int 0, .int ((-1)), .int 0, .int 0, .long 0])), (c1, .inr (3, [.int 0, .ref em, .int 0])), (ou, .inl (cJ, 1, .inr (.inl ((fun _ => 0)))))] sz) := by
  refine va_MetW (cc := cL_priceFor) (maxL := 6) (ret := (some .int)) (hh := [(0, 12, 15, 35), (0, 12, 19, 13)]) (by decide) rfl ?_
  intro p e s m args below meth c s₁ B hml hv
  obtain ⟨rfl, hsz, hP, hK, hD0, hF⟩ := hv
  have hx := B.exec
  have hb := B.bytes
  have hr := B.returns
  have hts := atoms_spec (ws := wsL_priceFor) B.pre
  have hown : s.vm.findClass RL = some m.cls := findClass_of_methodNamed B.named
  have hlocks := B.notSynchronized
  have htab := vx_table (x := yL_priceFor) B (hts _ List.mem_cons_self)
  subst hsz
  have hD := hD0.self (sz := s.heap.size)
  generalize hAe : va_A [(x, .inr (7, [.ref c1, .ref ps1, .ref lg, .int 9, .int 99, .int 0, .int 0, .int 0, .int ((-1)), .int 0, .int 0, .long 0])), (c1, .inr (3, [.int 0, .ref em, .int 0])), (ou, .inl (cJ, 1, .inr (.inl ((fun _ => 0)))))] s.heap.size = A at hD hF ⊢
  have hA : ∀ q : Nat, s.heap.size ≤ q → A q := fun q h => by rw [← hAe]; exact Or.inr h
  have hS : va_S A s.heap s.heap [] := va_S.rf
  have hP : va_P D vwCl [(x, .inr (7, [.ref c1, .ref ps1, .ref lg, .int 9, .int 99, .int 0, .int 0, .int 0, .int ((-1)), .int 0, .int 0, .long 0])), (c1, .inr (3, [.int 0, .ref em, .int 0])), (ou, .inl (cJ, 1, .inr (.inl ((fun _ => 0)))))] s.heap := hP
  have hl := lv_entry ([.ref x, .int p0, .int p1, .int p2, .ref ou]) (n := 6) (Nat.le_of_ble_eq_true rfl)
  rw [lg_entry_eq]
  generalize (lg_sl ([.ref x, .int p0, .int p1, .int p2, .ref ou]) ++ List.replicate (6 - (lg_sl ([.ref x, .int p0, .int p1, .int p2, .ref ou])).length) Slot.unset).toArray = ls at hl ⊢
  have hl : lv_has ls 6 [(0, .ref x), (1, .int p0), (2, .int p1), (3, .int p2), (4, .ref ou)] := hl
  refine lv_aload hx hb dL_priceFor_0 (lv_at hl 4 rfl) ?_
  refine lv_iconst (v := 0) hx hb dL_priceFor_2 (by decide) ?_
  refine lv_aload_n hx hb dL_priceFor_3 rfl (lv_at hl 0 rfl) ?_
  refine lv_iload_n hx hb dL_priceFor_4 rfl (lv_at hl 1 rfl) ?_
  refine lv_iload_n hx hb dL_priceFor_5 rfl (lv_at hl 2 rfl) ?_
  refine lv_iload_n hx hb dL_priceFor_6 rfl (lv_at hl 3 rfl) ?_
  have hPc := hP.sub (ws' := [(x, .inr (7, [.ref c1, .ref ps1, .ref lg, .int 9, .int 99, .int 0, .int 0, .int 0, .int ((-1)), .int 0, .int 0, .long 0])), (c1, .inr (3, [.int 0, .ref em, .int 0]))]) [0, 1] rfl
  have hDc := hD.sub (ws' := [(x, .inr (7, [.ref c1, .ref ps1, .ref lg, .int 9, .int 99, .int 0, .int 0, .int 0, .int ((-1)), .int 0, .int 0, .long 0])), (c1, .inr (3, [.int 0, .ref em, .int 0]))]) [0, 1] (by decide) rfl
  have hKc := hK.sub (tys' := []) [] rfl
  have hFc := va_free (wc := [(x, .inr (7, [.ref c1, .ref ps1, .ref lg, .int 9, .int 99, .int 0, .int 0, .int 0, .int ((-1)), .int 0, .int 0, .long 0])), (c1, .inr (3, [.int 0, .ref em, .int 0]))]) hD hS hA [0, 1] rfl
  refine vx_calli (vx_runV (As := [.int p0, .int p1, .int p2]) (rest := [.int 0, .ref ou]) ⟨hx, hb, hml, hown, hts⟩ (c_X3_priceFor l hst em kw kb D x p0 p1 p2 c1 ps1 lg _) (cwV 3 hts gL_priceFor_X3_priceFor rfl rfl rfl (by decide +kernel) ⟨(Nat.le_of_ble_eq_true rfl), (Nat.le_of_ble_eq_true rfl)⟩) (tw_preV hF hS hFc hPc hKc hDc (va_recv hKc hPc (ci := 7) (q0 := 0) rfl rfl)) rfl rfl hl.1 rfl (lv_room (Nat.le_of_ble_eq_true rfl)) dL_priceFor_7 ⟨(Nat.le_of_ble_eq_true rfl), (Nat.le_of_ble_eq_true rfl)⟩) hS (fun q _ h => hFc q h) hFc (fun q _ h => hFc q h) (fun E ce q9 u t H locs ht hvm hw hB hz1 hk1 hS hce hcv hcl => ?_) (fun r u t H locs ht hvm hw hB hz1 hk1 hS => ?_)
  · obtain ⟨hE, hB⟩ := hB
    subst hw
    subst hE
    obtain ⟨hP, hD, hK⟩ := tw_join (wr := [(ou, .inl (cJ, 1, .inr (.inl ((fun _ => 0)))))]) hP hD hK [0, 1] [2] rfl rfl (by decide) (by decide) hk1 hFc ht hvm hB
    have hP : va_P D vwCl [(ou, .inl (cJ, 1, .inr (.inl ((fun _ => 0)))))] _ := hP
    have hD : va_D A [(ou, .inl (cJ, 1, .inr (.inl ((fun _ => 0)))))] := hD
    have hK : va_K D vwCl [(cJ, .long)] s := hK
    refine vx_catch (name := "java/lang/IndexOutOfBoundsException") hown [] (ExceptionTableEntry.mk 0 12 15 35) [ExceptionTableEntry.mk 0 12 19 13] (by rw [htab]; rfl) (List.forall_mem_nil _) (by decide) (by decide) (hts (.classLink RL 35 "java/lang/IndexOutOfBoundsException") (by decide +kernel)) (tw_cs hF (q := ("java/lang/IndexOutOfBoundsException", "java/lang/IndexOutOfBoundsException")) (by decide)) hce hcv hcl ?_
    refine W.widen (k := 1) (n := 6) (Nat.le_refl _) (Nat.le_refl _) ?_
    refine W.eq (g2 := F0 m 15 ls [.ref q9]) rfl ?_
    refine lv_astore (lv' := [(5, .ref q9), (0, .ref x), (1, .int p0), (2, .int p1), (3, .int p2), (4, .ref ou)]) hx hb dL_priceFor_15 hl (by decide) rfl (fun ls hl => ?_)
    refine lv_iconst (v := 1) hx hb dL_priceFor_17 (by decide) ?_
    refine W.widen (k := 1) (n := 6) (Nat.le_of_ble_eq_true rfl) (Nat.le_of_ble_eq_true rfl) ?_
    have hP9 := hP.sub (ws' := [(ou, .inl (cJ, 1, .inr (.inl ((fun _ => 0)))))]) [0] rfl
    have hD9 := hD.sub (ws' := [(ou, .inl (cJ, 1, .inr (.inl ((fun _ => 0)))))]) [0] (by decide) rfl
    have hK9 := hK.sub (tys' := []) [] rfl
    exact W.iret (v := 1) hx hb hr (fun t ht hW => ⟨⟨1, ([(ou, .inl (cJ, 1, .inr (.inl ((fun _ => 0)))))], []), rfl, ⟨rfl, rfl⟩, by rw [ht]; exact hP9, va_K.moved hW.alike hK9, hD9⟩, hS.F ht⟩) hS.2.2 dL_priceFor_18
  · exact hw.elim
set_option maxHeartbeats 4000000 in
set_option maxRecDepth 100000 in
theorem c_L_fail (l : Launch) (hst : l.stackTraces = false) (em kw kb : Nat) (D : va_G) (x : Nat) (p0 : Int32) (p1 : Int32) (ou : Nat) (c1 : Nat) (ps1 : Nat) (lg : Nat) (cJ : ClassId) (sz : Nat) : Met l yL_fail wsL_fail ({ frames := 8, cells := 1, slots := 6, locals := 127 }) (va_Pc [.ref x, .int p0, .int p1, .ref ou] (tw_Pre em kw kb D sz [(x, .inr (7, [.ref c1, .ref ps1, .ref lg, .int 9, .int 99, .int 0, .int 0, .int 0, .int ((-1)), .int 0, .int 0, .long 0])), (c1, .inr (3, [.int 0, .ref em, .int 0])), (ou, .inl (cJ, 1, .inr (.inl ((fun _ => 0)))))] [(cJ, .long)])) (va_Qi (fun (r : Int32) (u : tw_U) => r = 1 ∧ u = ([(ou, .inl (cJ, 1, .inr (.inl ((fun _ => 0)))))], [])) (tw_B D (va_A [(x, .inr (7, [.ref c1, .ref ps1, .ref lg, .int 9, .int 99, .int 0, .int 0, .int 0, .int ((-1)), .int 0, .int 0, .long 0])), (c1, .inr (3, [.int 0, .ref em, .int 0])), (ou, .inl (cJ, 1, .inr (.inl ((fun _ => 0)))))] sz)) (va_A [(x, .inr (7, [.ref c1, .ref ps1, .ref lg, .int 9, .int 99, .int 0, .int 0, .int 0, .int ((-1)), .int 0, .int 0, .long 0])), (c1, .inr (3, [.int 0, .ref em, .int 0])), (ou, .inl (cJ, 1, .inr (.inl ((fun _ => 0)))))] sz)) 1 6 (va_A [(x, .inr (7, [.ref c1, .ref ps1, .ref lg, .int 9, .int 99, .int 0, .int 0, .int 0, .int ((-1)), .int 0, .int 0, .long 0])), (c1, .inr (3, [.int 0, .ref em, .int 0])), (ou, .inl (cJ, 1, .inr (.inl ((fun _ => 0)))))] sz) := by
  refine va_MetW (cc := cL_fail) (maxL := 5) (ret := (some .int)) (hh := [(0, 17, 20, 35)]) (by decide) rfl ?_
  intro p e s m args below meth c s₁ B hml hv
  obtain ⟨rfl, hsz, hP, hK, hD0, hF⟩ := hv
  have hx := B.exec
  have hb := B.bytes
  have hr := B.returns
  have hts := atoms_spec (ws := wsL_fail) B.pre
  have hown : s.vm.findClass RL = some m.cls := findClass_of_methodNamed B.named
  have hlocks := B.notSynchronized
  have htab := vx_table (x := yL_fail) B (hts _ List.mem_cons_self)
  subst hsz
  have hD := hD0.self (sz := s.heap.size)
  generalize hAe : va_A [(x, .inr (7, [.ref c1, .ref ps1, .ref lg, .int 9, .int 99, .int 0, .int 0, .int 0, .int ((-1)), .int 0, .int 0, .long 0])), (c1, .inr (3, [.int 0, .ref em, .int 0])), (ou, .inl (cJ, 1, .inr (.inl ((fun _ => 0)))))] s.heap.size = A at hD hF ⊢
  have hA : ∀ q : Nat, s.heap.size ≤ q → A q := fun q h => by rw [← hAe]; exact Or.inr h
  have hS : va_S A s.heap s.heap [] := va_S.rf
  have hP : va_P D vwCl [(x, .inr (7, [.ref c1, .ref ps1, .ref lg, .int 9, .int 99, .int 0, .int 0, .int 0, .int ((-1)), .int 0, .int 0, .long 0])), (c1, .inr (3, [.int 0, .ref em, .int 0])), (ou, .inl (cJ, 1, .inr (.inl ((fun _ => 0)))))] s.heap := hP
  have hl := lv_entry ([.ref x, .int p0, .int p1, .ref ou]) (n := 5) (Nat.le_of_ble_eq_true rfl)
  rw [lg_entry_eq]
  generalize (lg_sl ([.ref x, .int p0, .int p1, .ref ou]) ++ List.replicate (5 - (lg_sl ([.ref x, .int p0, .int p1, .ref ou])).length) Slot.unset).toArray = ls at hl ⊢
  have hl : lv_has ls 5 [(0, .ref x), (1, .int p0), (2, .int p1), (3, .ref ou)] := hl
  refine lv_aload_n hx hb dL_fail_0 rfl (lv_at hl 3 rfl) ?_
  refine lv_iconst (v := 0) hx hb dL_fail_1 (by decide) ?_
  refine lv_aload_n hx hb dL_fail_2 rfl (lv_at hl 0 rfl) ?_
  refine lv_iload_n hx hb dL_fail_3 rfl (lv_at hl 1 rfl) ?_
  refine lv_iload_n hx hb dL_fail_4 rfl (lv_at hl 2 rfl) ?_
  have hPc := hP.sub (ws' := [(x, .inr (7, [.ref c1, .ref ps1, .ref lg, .int 9, .int 99, .int 0, .int 0, .int 0, .int ((-1)), .int 0, .int 0, .long 0])), (c1, .inr (3, [.int 0, .ref em, .int 0]))]) [0, 1] rfl
  have hDc := hD.sub (ws' := [(x, .inr (7, [.ref c1, .ref ps1, .ref lg, .int 9, .int 99, .int 0, .int 0, .int 0, .int ((-1)), .int 0, .int 0, .long 0])), (c1, .inr (3, [.int 0, .ref em, .int 0]))]) [0, 1] (by decide) rfl
  have hKc := hK.sub (tys' := []) [] rfl
  have hFc := va_free (wc := [(x, .inr (7, [.ref c1, .ref ps1, .ref lg, .int 9, .int 99, .int 0, .int 0, .int 0, .int ((-1)), .int 0, .int 0, .long 0])), (c1, .inr (3, [.int 0, .ref em, .int 0]))]) hD hS hA [0, 1] rfl
  refine vx_calli (vx_runV (As := [.int p0, .int p1]) (rest := [.int 0, .ref ou]) ⟨hx, hb, hml, hown, hts⟩ (c_X3_fail l hst em kw kb D x p0 p1 c1 ps1 lg _) (cwV 2 hts gL_fail_X3_fail rfl rfl rfl (by decide +kernel) ⟨(Nat.le_of_ble_eq_true rfl), (Nat.le_of_ble_eq_true rfl)⟩) (tw_preV hF hS hFc hPc hKc hDc (va_recv hKc hPc (ci := 7) (q0 := 0) rfl rfl)) rfl rfl hl.1 rfl (lv_room (Nat.le_of_ble_eq_true rfl)) dL_fail_5 ⟨(Nat.le_of_ble_eq_true rfl), (Nat.le_of_ble_eq_true rfl)⟩) hS (fun q _ h => hFc q h) hFc (fun q _ h => hFc q h) (fun E ce q9 u t H locs ht hvm hw hB hz1 hk1 hS hce hcv hcl => ?_) (fun r u t H locs ht hvm hw hB hz1 hk1 hS => ?_)
  · obtain ⟨hE, hB⟩ := hB
    subst hw
    subst hE
    obtain ⟨hP, hD, hK⟩ := tw_join (wr := [(ou, .inl (cJ, 1, .inr (.inl ((fun _ => 0)))))]) hP hD hK [0, 1] [2] rfl rfl (by decide) (by decide) hk1 hFc ht hvm hB
    have hP : va_P D vwCl [(ou, .inl (cJ, 1, .inr (.inl ((fun _ => 0)))))] _ := hP
    have hD : va_D A [(ou, .inl (cJ, 1, .inr (.inl ((fun _ => 0)))))] := hD
    have hK : va_K D vwCl [(cJ, .long)] s := hK
    refine vx_catch (name := "java/lang/IndexOutOfBoundsException") hown [] (ExceptionTableEntry.mk 0 17 20 35) [] (by rw [htab]; rfl) (List.forall_mem_nil _) (by decide) (by decide) (hts (.classLink RL 35 "java/lang/IndexOutOfBoundsException") (by decide +kernel)) (tw_cs hF (q := ("java/lang/IndexOutOfBoundsException", "java/lang/IndexOutOfBoundsException")) (by decide)) hce hcv hcl ?_
    refine W.widen (k := 1) (n := 6) (Nat.le_refl _) (Nat.le_refl _) ?_
    refine W.eq (g2 := F0 m 20 ls [.ref q9]) rfl ?_
    refine lv_astore (lv' := [(4, .ref q9), (0, .ref x), (1, .int p0), (2, .int p1), (3, .ref ou)]) hx hb dL_fail_20 hl (by decide) rfl (fun ls hl => ?_)
    refine lv_iconst (v := 1) hx hb dL_fail_22 (by decide) ?_
    refine W.widen (k := 1) (n := 6) (Nat.le_of_ble_eq_true rfl) (Nat.le_of_ble_eq_true rfl) ?_
    have hP9 := hP.sub (ws' := [(ou, .inl (cJ, 1, .inr (.inl ((fun _ => 0)))))]) [0] rfl
    have hD9 := hD.sub (ws' := [(ou, .inl (cJ, 1, .inr (.inl ((fun _ => 0)))))]) [0] (by decide) rfl
    have hK9 := hK.sub (tys' := []) [] rfl
    exact W.iret (v := 1) hx hb hr (fun t ht hW => ⟨⟨1, ([(ou, .inl (cJ, 1, .inr (.inl ((fun _ => 0)))))], []), rfl, ⟨rfl, rfl⟩, by rw [ht]; exact hP9, va_K.moved hW.alike hK9, hD9⟩, hS.F ht⟩) hS.2.2 dL_fail_23
  · exact hw.elim
set_option maxHeartbeats 4000000 in
set_option maxRecDepth 100000 in
theorem c_L_state (l : Launch) (hst : l.stackTraces = false) (em kw kb : Nat) (D : va_G) (x : Nat) (p0 : Int32) (ou : Nat) (c1 : Nat) (ps1 : Nat) (lg : Nat) (cJ : ClassId) (sz : Nat) : Met l yL_state wsL_state ({ frames := 8, cells := 1, slots := 6, locals := 124 }) (va_Pc [.ref x, .int p0, .ref ou] (tw_Pre em kw kb D sz [(x, .inr (7, [.ref c1, .ref ps1, .ref lg, .int 9, .int 99, .int 0, .int 0, .int 0, .int ((-1)), .int 0, .int 0, .long 0])), (ps1, .inr (3, [.int 0, .ref em, .int 0])), (ou, .inl (cJ, 1, .inr (.inl ((fun _ => 0)))))] [(cJ, .long)])) (va_Qi (fun (r : Int32) (u : tw_U) => r = 1 ∧ u = ([(ou, .inl (cJ, 1, .inr (.inl ((fun _ => 0)))))], [])) (tw_B D (va_A [(x, .inr (7, [.ref c1, .ref ps1, .ref lg, .int 9, .int 99, .int 0, .int 0, .int 0, .int ((-1)), .int 0, .int 0, .long 0])), (ps1, .inr (3, [.int 0, .ref em, .int 0])), (ou, .inl (cJ, 1, .inr (.inl ((fun _ => 0)))))] sz)) (va_A [(x, .inr (7, [.ref c1, .ref ps1, .ref lg, .int 9, .int 99, .int 0, .int 0, .int 0, .int ((-1)), .int 0, .int 0, .long 0])), (ps1, .inr (3, [.int 0, .ref em, .int 0])), (ou, .inl (cJ, 1, .inr (.inl ((fun _ => 0)))))] sz)) 1 6 (va_A [(x, .inr (7, [.ref c1, .ref ps1, .ref lg, .int 9, .int 99, .int 0, .int 0, .int 0, .int ((-1)), .int 0, .int 0, .long 0])), (ps1, .inr (3, [.int 0, .ref em, .int 0])), (ou, .inl (cJ, 1, .inr (.inl ((fun _ => 0)))))] sz) := by
  refine va_MetW (cc := cL_state) (maxL := 4) (ret := (some .int)) (hh := [(0, 9, 12, 35)]) (by decide) rfl ?_
  intro p e s m args below meth c s₁ B hml hv
  obtain ⟨rfl, hsz, hP, hK, hD0, hF⟩ := hv
  have hx := B.exec
  have hb := B.bytes
  have hr := B.returns
  have hts := atoms_spec (ws := wsL_state) B.pre
  have hown : s.vm.findClass RL = some m.cls := findClass_of_methodNamed B.named
  have hlocks := B.notSynchronized
  have htab := vx_table (x := yL_state) B (hts _ List.mem_cons_self)
  subst hsz
  have hD := hD0.self (sz := s.heap.size)
  generalize hAe : va_A [(x, .inr (7, [.ref c1, .ref ps1, .ref lg, .int 9, .int 99, .int 0, .int 0, .int 0, .int ((-1)), .int 0, .int 0, .long 0])), (ps1, .inr (3, [.int 0, .ref em, .int 0])), (ou, .inl (cJ, 1, .inr (.inl ((fun _ => 0)))))] s.heap.size = A at hD hF ⊢
  have hA : ∀ q : Nat, s.heap.size ≤ q → A q := fun q h => by rw [← hAe]; exact Or.inr h
  have hS : va_S A s.heap s.heap [] := va_S.rf
  have hP : va_P D vwCl [(x, .inr (7, [.ref c1, .ref ps1, .ref lg, .int 9, .int 99, .int 0, .int 0, .int 0, .int ((-1)), .int 0, .int 0, .long 0])), (ps1, .inr (3, [.int 0, .ref em, .int 0])), (ou, .inl (cJ, 1, .inr (.inl ((fun _ => 0)))))] s.heap := hP
  have hl := lv_entry ([.ref x, .int p0, .ref ou]) (n := 4) (Nat.le_of_ble_eq_true rfl)
  rw [lg_entry_eq]
  generalize (lg_sl ([.ref x, .int p0, .ref ou]) ++ List.replicate (4 - (lg_sl ([.ref x, .int p0, .ref ou])).length) Slot.unset).toArray = ls at hl ⊢
  have hl : lv_has ls 4 [(0, .ref x), (1, .int p0), (2, .ref ou)] := hl
  refine lv_aload_n hx hb dL_state_0 rfl (lv_at hl 2 rfl) ?_
  refine lv_iconst (v := 0) hx hb dL_state_1 (by decide) ?_
  refine lv_aload_n hx hb dL_state_2 rfl (lv_at hl 0 rfl) ?_
  refine lv_iload_n hx hb dL_state_3 rfl (lv_at hl 1 rfl) ?_
  have hPc := hP.sub (ws' := [(x, .inr (7, [.ref c1, .ref ps1, .ref lg, .int 9, .int 99, .int 0, .int 0, .int 0, .int ((-1)), .int 0, .int 0, .long 0])), (ps1, .inr (3, [.int 0, .ref em, .int 0]))]) [0, 1] rfl
  have hDc := hD.sub (ws' := [(x, .inr (7, [.ref c1, .ref ps1, .ref lg, .int 9, .int 99, .int 0, .int 0, .int 0, .int ((-1)), .int 0, .int 0, .long 0])), (ps1, .inr (3, [.int 0, .ref em, .int 0]))]) [0, 1] (by decide) rfl
  have hKc := hK.sub (tys' := []) [] rfl
  have hFc := va_free (wc := [(x, .inr (7, [.ref c1, .ref ps1, .ref lg, .int 9, .int 99, .int 0, .int 0, .int 0, .int ((-1)), .int 0, .int 0, .long 0])), (ps1, .inr (3, [.int 0, .ref em, .int 0]))]) hD hS hA [0, 1] rfl
  refine vx_calli (vx_runV (As := [.int p0]) (rest := [.int 0, .ref ou]) ⟨hx, hb, hml, hown, hts⟩ (c_X3_state l hst em kw kb D x p0 c1 ps1 lg _) (cwV 1 hts gL_state_X3_state rfl rfl rfl (by decide +kernel) ⟨(Nat.le_of_ble_eq_true rfl), (Nat.le_of_ble_eq_true rfl)⟩) (tw_preV hF hS hFc hPc hKc hDc (va_recv hKc hPc (ci := 7) (q0 := 0) rfl rfl)) rfl rfl hl.1 rfl (lv_room (Nat.le_of_ble_eq_true rfl)) dL_state_4 ⟨(Nat.le_of_ble_eq_true rfl), (Nat.le_of_ble_eq_true rfl)⟩) hS (fun q _ h => hFc q h) hFc (fun q _ h => hFc q h) (fun E ce q9 u t H locs ht hvm hw hB hz1 hk1 hS hce hcv hcl => ?_) (fun r u t H locs ht hvm hw hB hz1 hk1 hS => ?_)
  · obtain ⟨hE, hB⟩ := hB
    subst hw
    subst hE
    obtain ⟨hP, hD, hK⟩ := tw_join (wr := [(ou, .inl (cJ, 1, .inr (.inl ((fun _ => 0)))))]) hP hD hK [0, 1] [2] rfl rfl (by decide) (by decide) hk1 hFc ht hvm hB
    have hP : va_P D vwCl [(ou, .inl (cJ, 1, .inr (.inl ((fun _ => 0)))))] _ := hP
    have hD : va_D A [(ou, .inl (cJ, 1, .inr (.inl ((fun _ => 0)))))] := hD
    have hK : va_K D vwCl [(cJ, .long)] s := hK
    refine vx_catch (name := "java/lang/IndexOutOfBoundsException") hown [] (ExceptionTableEntry.mk 0 9 12 35) [] (by rw [htab]; rfl) (List.forall_mem_nil _) (by decide) (by decide) (hts (.classLink RL 35 "java/lang/IndexOutOfBoundsException") (by decide +kernel)) (tw_cs hF (q := ("java/lang/IndexOutOfBoundsException", "java/lang/IndexOutOfBoundsException")) (by decide)) hce hcv hcl ?_
    refine W.widen (k := 1) (n := 6) (Nat.le_refl _) (Nat.le_refl _) ?_
    refine W.eq (g2 := F0 m 12 ls [.ref q9]) rfl ?_
    refine lv_astore_n (lv' := [(3, .ref q9), (0, .ref x), (1, .int p0), (2, .ref ou)]) hx hb dL_state_12 rfl hl (by decide) rfl (fun ls hl => ?_)
    refine lv_iconst (v := 1) hx hb dL_state_13 (by decide) ?_
    refine W.widen (k := 1) (n := 6) (Nat.le_of_ble_eq_true rfl) (Nat.le_of_ble_eq_true rfl) ?_
    have hP9 := hP.sub (ws' := [(ou, .inl (cJ, 1, .inr (.inl ((fun _ => 0)))))]) [0] rfl
    have hD9 := hD.sub (ws' := [(ou, .inl (cJ, 1, .inr (.inl ((fun _ => 0)))))]) [0] (by decide) rfl
    have hK9 := hK.sub (tys' := []) [] rfl
    exact W.iret (v := 1) hx hb hr (fun t ht hW => ⟨⟨1, ([(ou, .inl (cJ, 1, .inr (.inl ((fun _ => 0)))))], []), rfl, ⟨rfl, rfl⟩, by rw [ht]; exact hP9, va_K.moved hW.alike hK9, hD9⟩, hS.F ht⟩) hS.2.2 dL_state_14
  · exact hw.elim
set_option maxHeartbeats 4000000 in
set_option maxRecDepth 100000 in
theorem c_L_placeOf (l : Launch) (hst : l.stackTraces = false) (em kw kb : Nat) (D : va_G) (x : Nat) (p0 : Int32) (ou : Nat) (c1 : Nat) (ps1 : Nat) (lg : Nat) (cJ : ClassId) (sz : Nat) : Met l yL_placeOf wsL_placeOf ({ frames := 8, cells := 1, slots := 6, locals := 125 }) (va_Pc [.ref x, .int p0, .ref ou] (tw_Pre em kw kb D sz [(x, .inr (7, [.ref c1, .ref ps1, .ref lg, .int 9, .int 99, .int 0, .int 0, .int 0, .int ((-1)), .int 0, .int 0, .long 0])), (ps1, .inr (3, [.int 0, .ref em, .int 0])), (ou, .inl (cJ, 1, .inr (.inl ((fun _ => 0)))))] [(cJ, .long)])) (va_Qi (fun (r : Int32) (u : tw_U) => r = 1 ∧ u = ([(ou, .inl (cJ, 1, .inr (.inl ((fun _ => 0)))))], [])) (tw_B D (va_A [(x, .inr (7, [.ref c1, .ref ps1, .ref lg, .int 9, .int 99, .int 0, .int 0, .int 0, .int ((-1)), .int 0, .int 0, .long 0])), (ps1, .inr (3, [.int 0, .ref em, .int 0])), (ou, .inl (cJ, 1, .inr (.inl ((fun _ => 0)))))] sz)) (va_A [(x, .inr (7, [.ref c1, .ref ps1, .ref lg, .int 9, .int 99, .int 0, .int 0, .int 0, .int ((-1)), .int 0, .int 0, .long 0])), (ps1, .inr (3, [.int 0, .ref em, .int 0])), (ou, .inl (cJ, 1, .inr (.inl ((fun _ => 0)))))] sz)) 1 6 (va_A [(x, .inr (7, [.ref c1, .ref ps1, .ref lg, .int 9, .int 99, .int 0, .int 0, .int 0, .int ((-1)), .int 0, .int 0, .long 0])), (ps1, .inr (3, [.int 0, .ref em, .int 0])), (ou, .inl (cJ, 1, .inr (.inl ((fun _ => 0)))))] sz) := by
  refine va_MetW (cc := cL_placeOf) (maxL := 4) (ret := (some .int)) (hh := [(0, 9, 12, 35)]) (by decide) rfl ?_
  intro p e s m args below meth c s₁ B hml hv
  obtain ⟨rfl, hsz, hP, hK, hD0, hF⟩ := hv
  have hx := B.exec
  have hb := B.bytes
  have hr := B.returns
  have hts := atoms_spec (ws := wsL_placeOf) B.pre
  have hown : s.vm.findClass RL = some m.cls := findClass_of_methodNamed B.named
  have hlocks := B.notSynchronized
  have htab := vx_table (x := yL_placeOf) B (hts _ List.mem_cons_self)
  subst hsz
  have hD := hD0.self (sz := s.heap.size)
  generalize hAe : va_A [(x, .inr (7, [.ref c1, .ref ps1, .ref lg, .int 9, .int 99, .int 0, .int 0, .int 0, .int ((-1)), .int 0, .int 0, .long 0])), (ps1, .inr (3, [.int 0, .ref em, .int 0])), (ou, .inl (cJ, 1, .inr (.inl ((fun _ => 0)))))] s.heap.size = A at hD hF ⊢
  have hA : ∀ q : Nat, s.heap.size ≤ q → A q := fun q h => by rw [← hAe]; exact Or.inr h
  have hS : va_S A s.heap s.heap [] := va_S.rf
  have hP : va_P D vwCl [(x, .inr (7, [.ref c1, .ref ps1, .ref lg, .int 9, .int 99, .int 0, .int 0, .int 0, .int ((-1)), .int 0, .int 0, .long 0])), (ps1, .inr (3, [.int 0, .ref em, .int 0])), (ou, .inl (cJ, 1, .inr (.inl ((fun _ => 0)))))] s.heap := hP
  have hl := lv_entry ([.ref x, .int p0, .ref ou]) (n := 4) (Nat.le_of_ble_eq_true rfl)
  rw [lg_entry_eq]
  generalize (lg_sl ([.ref x, .int p0, .ref ou]) ++ List.replicate (4 - (lg_sl ([.ref x, .int p0, .ref ou])).length) Slot.unset).toArray = ls at hl ⊢
  have hl : lv_has ls 4 [(0, .ref x), (1, .int p0), (2, .ref ou)] := hl
  refine lv_aload_n hx hb dL_placeOf_0 rfl (lv_at hl 2 rfl) ?_
  refine lv_iconst (v := 0) hx hb dL_placeOf_1 (by decide) ?_
  refine lv_aload_n hx hb dL_placeOf_2 rfl (lv_at hl 0 rfl) ?_
  refine lv_iload_n hx hb dL_placeOf_3 rfl (lv_at hl 1 rfl) ?_
  have hPc := hP.sub (ws' := [(x, .inr (7, [.ref c1, .ref ps1, .ref lg, .int 9, .int 99, .int 0, .int 0, .int 0, .int ((-1)), .int 0, .int 0, .long 0])), (ps1, .inr (3, [.int 0, .ref em, .int 0]))]) [0, 1] rfl
  have hDc := hD.sub (ws' := [(x, .inr (7, [.ref c1, .ref ps1, .ref lg, .int 9, .int 99, .int 0, .int 0, .int 0, .int ((-1)), .int 0, .int 0, .long 0])), (ps1, .inr (3, [.int 0, .ref em, .int 0]))]) [0, 1] (by decide) rfl
  have hKc := hK.sub (tys' := []) [] rfl
  have hFc := va_free (wc := [(x, .inr (7, [.ref c1, .ref ps1, .ref lg, .int 9, .int 99, .int 0, .int 0, .int 0, .int ((-1)), .int 0, .int 0, .long 0])), (ps1, .inr (3, [.int 0, .ref em, .int 0]))]) hD hS hA [0, 1] rfl
  refine vx_calli (vx_runV (As := [.int p0]) (rest := [.int 0, .ref ou]) ⟨hx, hb, hml, hown, hts⟩ (c_X3_placeOf l hst em kw kb D x p0 c1 ps1 lg _) (cwV 1 hts gL_placeOf_X3_placeOf rfl rfl rfl (by decide +kernel) ⟨(Nat.le_of_ble_eq_true rfl), (Nat.le_of_ble_eq_true rfl)⟩) (tw_preV hF hS hFc hPc hKc hDc (va_recv hKc hPc (ci := 7) (q0 := 0) rfl rfl)) rfl rfl hl.1 rfl (lv_room (Nat.le_of_ble_eq_true rfl)) dL_placeOf_4 ⟨(Nat.le_of_ble_eq_true rfl), (Nat.le_of_ble_eq_true rfl)⟩) hS (fun q _ h => hFc q h) hFc (fun q _ h => hFc q h) (fun E ce q9 u t H locs ht hvm hw hB hz1 hk1 hS hce hcv hcl => ?_) (fun r u t H locs ht hvm hw hB hz1 hk1 hS => ?_)
  · obtain ⟨hE, hB⟩ := hB
    subst hw
    subst hE
    obtain ⟨hP, hD, hK⟩ := tw_join (wr := [(ou, .inl (cJ, 1, .inr (.inl ((fun _ => 0)))))]) hP hD hK [0, 1] [2] rfl rfl (by decide) (by decide) hk1 hFc ht hvm hB
    have hP : va_P D vwCl [(ou, .inl (cJ, 1, .inr (.inl ((fun _ => 0)))))] _ := hP
    have hD : va_D A [(ou, .inl (cJ, 1, .inr (.inl ((fun _ => 0)))))] := hD
    have hK : va_K D vwCl [(cJ, .long)] s := hK
    refine vx_catch (name := "java/lang/IndexOutOfBoundsException") hown [] (ExceptionTableEntry.mk 0 9 12 35) [] (by rw [htab]; rfl) (List.forall_mem_nil _) (by decide) (by decide) (hts (.classLink RL 35 "java/lang/IndexOutOfBoundsException") (by decide +kernel)) (tw_cs hF (q := ("java/lang/IndexOutOfBoundsException", "java/lang/IndexOutOfBoundsException")) (by decide)) hce hcv hcl ?_
    refine W.widen (k := 1) (n := 6) (Nat.le_refl _) (Nat.le_refl _) ?_
    refine W.eq (g2 := F0 m 12 ls [.ref q9]) rfl ?_
    refine lv_astore_n (lv' := [(3, .ref q9), (0, .ref x), (1, .int p0), (2, .ref ou)]) hx hb dL_placeOf_12 rfl hl (by decide) rfl (fun ls hl => ?_)
    refine lv_iconst (v := 1) hx hb dL_placeOf_13 (by decide) ?_
    refine W.widen (k := 1) (n := 6) (Nat.le_of_ble_eq_true rfl) (Nat.le_of_ble_eq_true rfl) ?_
    have hP9 := hP.sub (ws' := [(ou, .inl (cJ, 1, .inr (.inl ((fun _ => 0)))))]) [0] rfl
    have hD9 := hD.sub (ws' := [(ou, .inl (cJ, 1, .inr (.inl ((fun _ => 0)))))]) [0] (by decide) rfl
    have hK9 := hK.sub (tys' := []) [] rfl
    exact W.iret (v := 1) hx hb hr (fun t ht hW => ⟨⟨1, ([(ou, .inl (cJ, 1, .inr (.inl ((fun _ => 0)))))], []), rfl, ⟨rfl, rfl⟩, by rw [ht]; exact hP9, va_K.moved hW.alike hK9, hD9⟩, hS.F ht⟩) hS.2.2 dL_placeOf_14
  · exact hw.elim
set_option maxHeartbeats 4000000 in
set_option maxRecDepth 100000 in
theorem c_L_waited (l : Launch) (hst : l.stackTraces = false) (em kw kb : Nat) (D : va_G) (x : Nat) (p0 : Int32) (ou : Nat) (c1 : Nat) (ps1 : Nat) (lg : Nat) (cJ : ClassId) (sz : Nat) : Met l yL_waited wsL_waited ({ frames := 8, cells := 1, slots := 6, locals := 124 }) (va_Pc [.ref x, .int p0, .ref ou] (tw_Pre em kw kb D sz [(x, .inr (7, [.ref c1, .ref ps1, .ref lg, .int 9, .int 99, .int 0, .int 0, .int 0, .int ((-1)), .int 0, .int 0, .long 0])), (ps1, .inr (3, [.int 0, .ref em, .int 0])), (ou, .inl (cJ, 1, .inr (.inl ((fun _ => 0)))))] [(cJ, .long)])) (va_Qi (fun (r : Int32) (u : tw_U) => r = 1 ∧ u = ([(ou, .inl (cJ, 1, .inr (.inl ((fun _ => 0)))))], [])) (tw_B D (va_A [(x, .inr (7, [.ref c1, .ref ps1, .ref lg, .int 9, .int 99, .int 0, .int 0, .int 0, .int ((-1)), .int 0, .int 0, .long 0])), (ps1, .inr (3, [.int 0, .ref em, .int 0])), (ou, .inl (cJ, 1, .inr (.inl ((fun _ => 0)))))] sz)) (va_A [(x, .inr (7, [.ref c1, .ref ps1, .ref lg, .int 9, .int 99, .int 0, .int 0, .int 0, .int ((-1)), .int 0, .int 0, .long 0])), (ps1, .inr (3, [.int 0, .ref em, .int 0])), (ou, .inl (cJ, 1, .inr (.inl ((fun _ => 0)))))] sz)) 1 6 (va_A [(x, .inr (7, [.ref c1, .ref ps1, .ref lg, .int 9, .int 99, .int 0, .int 0, .int 0, .int ((-1)), .int 0, .int 0, .long 0])), (ps1, .inr (3, [.int 0, .ref em, .int 0])), (ou, .inl (cJ, 1, .inr (.inl ((fun _ => 0)))))] sz) := by
  refine va_MetW (cc := cL_waited) (maxL := 4) (ret := (some .int)) (hh := [(0, 9, 12, 35)]) (by decide) rfl ?_
  intro p e s m args below meth c s₁ B hml hv
  obtain ⟨rfl, hsz, hP, hK, hD0, hF⟩ := hv
  have hx := B.exec
  have hb := B.bytes
  have hr := B.returns
  have hts := atoms_spec (ws := wsL_waited) B.pre
  have hown : s.vm.findClass RL = some m.cls := findClass_of_methodNamed B.named
  have hlocks := B.notSynchronized
  have htab := vx_table (x := yL_waited) B (hts _ List.mem_cons_self)
  subst hsz
  have hD := hD0.self (sz := s.heap.size)
  generalize hAe : va_A [(x, .inr (7, [.ref c1, .ref ps1, .ref lg, .int 9, .int 99, .int 0, .int 0, .int 0, .int ((-1)), .int 0, .int 0, .long 0])), (ps1, .inr (3, [.int 0, .ref em, .int 0])), (ou, .inl (cJ, 1, .inr (.inl ((fun _ => 0)))))] s.heap.size = A at hD hF ⊢
  have hA : ∀ q : Nat, s.heap.size ≤ q → A q := fun q h => by rw [← hAe]; exact Or.inr h
  have hS : va_S A s.heap s.heap [] := va_S.rf
  have hP : va_P D vwCl [(x, .inr (7, [.ref c1, .ref ps1, .ref lg, .int 9, .int 99, .int 0, .int 0, .int 0, .int ((-1)), .int 0, .int 0, .long 0])), (ps1, .inr (3, [.int 0, .ref em, .int 0])), (ou, .inl (cJ, 1, .inr (.inl ((fun _ => 0)))))] s.heap := hP
  have hl := lv_entry ([.ref x, .int p0, .ref ou]) (n := 4) (Nat.le_of_ble_eq_true rfl)
  rw [lg_entry_eq]
  generalize (lg_sl ([.ref x, .int p0, .ref ou]) ++ List.replicate (4 - (lg_sl ([.ref x, .int p0, .ref ou])).length) Slot.unset).toArray = ls at hl ⊢
  have hl : lv_has ls 4 [(0, .ref x), (1, .int p0), (2, .ref ou)] := hl
  refine lv_aload_n hx hb dL_waited_0 rfl (lv_at hl 2 rfl) ?_
  refine lv_iconst (v := 0) hx hb dL_waited_1 (by decide) ?_
  refine lv_aload_n hx hb dL_waited_2 rfl (lv_at hl 0 rfl) ?_
  refine lv_iload_n hx hb dL_waited_3 rfl (lv_at hl 1 rfl) ?_
  have hPc := hP.sub (ws' := [(x, .inr (7, [.ref c1, .ref ps1, .ref lg, .int 9, .int 99, .int 0, .int 0, .int 0, .int ((-1)), .int 0, .int 0, .long 0])), (ps1, .inr (3, [.int 0, .ref em, .int 0]))]) [0, 1] rfl
  have hDc := hD.sub (ws' := [(x, .inr (7, [.ref c1, .ref ps1, .ref lg, .int 9, .int 99, .int 0, .int 0, .int 0, .int ((-1)), .int 0, .int 0, .long 0])), (ps1, .inr (3, [.int 0, .ref em, .int 0]))]) [0, 1] (by decide) rfl
  have hKc := hK.sub (tys' := []) [] rfl
  have hFc := va_free (wc := [(x, .inr (7, [.ref c1, .ref ps1, .ref lg, .int 9, .int 99, .int 0, .int 0, .int 0, .int ((-1)), .int 0, .int 0, .long 0])), (ps1, .inr (3, [.int 0, .ref em, .int 0]))]) hD hS hA [0, 1] rfl
  refine vx_calli (vx_runV (As := [.int p0]) (rest := [.int 0, .ref ou]) ⟨hx, hb, hml, hown, hts⟩ (c_X3_waited l hst em kw kb D x p0 c1 ps1 lg _) (cwV 1 hts gL_waited_X3_waited rfl rfl rfl (by decide +kernel) ⟨(Nat.le_of_ble_eq_true rfl), (Nat.le_of_ble_eq_true rfl)⟩) (tw_preV hF hS hFc hPc hKc hDc (va_recv hKc hPc (ci := 7) (q0 := 0) rfl rfl)) rfl rfl hl.1 rfl (lv_room (Nat.le_of_ble_eq_true rfl)) dL_waited_4 ⟨(Nat.le_of_ble_eq_true rfl), (Nat.le_of_ble_eq_true rfl)⟩) hS (fun q _ h => hFc q h) hFc (fun q _ h => hFc q h) (fun E ce q9 u t H locs ht hvm hw hB hz1 hk1 hS hce hcv hcl => ?_) (fun r u t H locs ht hvm hw hB hz1 hk1 hS => ?_)
  · obtain ⟨hE, hB⟩ := hB
    subst hw
    subst hE
    obtain ⟨hP, hD, hK⟩ := tw_join (wr := [(ou, .inl (cJ, 1, .inr (.inl ((fun _ => 0)))))]) hP hD hK [0, 1] [2] rfl rfl (by decide) (by decide) hk1 hFc ht hvm hB
    have hP : va_P D vwCl [(ou, .inl (cJ, 1, .inr (.inl ((fun _ => 0)))))] _ := hP
    have hD : va_D A [(ou, .inl (cJ, 1, .inr (.inl ((fun _ => 0)))))] := hD
    have hK : va_K D vwCl [(cJ, .long)] s := hK
    refine vx_catch (name := "java/lang/IndexOutOfBoundsException") hown [] (ExceptionTableEntry.mk 0 9 12 35) [] (by rw [htab]; rfl) (List.forall_mem_nil _) (by decide) (by decide) (hts (.classLink RL 35 "java/lang/IndexOutOfBoundsException") (by decide +kernel)) (tw_cs hF (q := ("java/lang/IndexOutOfBoundsException", "java/lang/IndexOutOfBoundsException")) (by decide)) hce hcv hcl ?_
    refine W.widen (k := 1) (n := 6) (Nat.le_refl _) (Nat.le_refl _) ?_
    refine W.eq (g2 := F0 m 12 ls [.ref q9]) rfl ?_
    refine lv_astore_n (lv' := [(3, .ref q9), (0, .ref x), (1, .int p0), (2, .ref ou)]) hx hb dL_waited_12 rfl hl (by decide) rfl (fun ls hl => ?_)
    refine lv_iconst (v := 1) hx hb dL_waited_13 (by decide) ?_
    refine W.widen (k := 1) (n := 6) (Nat.le_of_ble_eq_true rfl) (Nat.le_of_ble_eq_true rfl) ?_
    have hP9 := hP.sub (ws' := [(ou, .inl (cJ, 1, .inr (.inl ((fun _ => 0)))))]) [0] rfl
    have hD9 := hD.sub (ws' := [(ou, .inl (cJ, 1, .inr (.inl ((fun _ => 0)))))]) [0] (by decide) rfl
    have hK9 := hK.sub (tys' := []) [] rfl
    exact W.iret (v := 1) hx hb hr (fun t ht hW => ⟨⟨1, ([(ou, .inl (cJ, 1, .inr (.inl ((fun _ => 0)))))], []), rfl, ⟨rfl, rfl⟩, by rw [ht]; exact hP9, va_K.moved hW.alike hK9, hD9⟩, hS.F ht⟩) hS.2.2 dL_waited_14
  · exact hw.elim
set_option maxHeartbeats 4000000 in
set_option maxRecDepth 100000 in
theorem c_L_pass (l : Launch) (hst : l.stackTraces = false) (em kw kb : Nat) (D : va_G) (x : Nat) (p0 : Int32) (ou : Nat) (c1 : Nat) (ps1 : Nat) (lg : Nat) (cJ : ClassId) (sz : Nat) : Met l yL_pass wsL_pass ({ frames := 7, cells := 1, slots := 6, locals := 104 }) (va_Pc [.ref x, .int p0, .ref ou] (tw_Pre em kw kb D sz [(x, .inr (7, [.ref c1, .ref ps1, .ref lg, .int 9, .int 99, .int 0, .int 0, .int 0, .int ((-1)), .int 0, .int 0, .long 0])), (c1, .inr (3, [.int 0, .ref em, .int 0])), (ou, .inl (cJ, 1, .inr (.inl ((fun _ => 0)))))] [(cJ, .long)])) (va_Qi (fun (r : Int32) (u : tw_U) => ((((p0 < 1) ∨ (¬ p0 < 1 ∧ ¬ p0 ≤ 100))) ∧ r = 1 ∧ u = ([(ou, .inl (cJ, 1, .inr (.inl ((fun _ => 0)))))], [])) ∨ (((¬ p0 < 1 ∧ p0 ≤ 100)) ∧ r = 0 ∧ u = ([(ou, .inl (cJ, 1, .inr (.inl (vp_updL ((fun _ => 0)) (0 : Int32).toNatClampNeg p0.toInt64))))], []))) (tw_B D (va_A [(x, .inr (7, [.ref c1, .ref ps1, .ref lg, .int 9, .int 99, .int 0, .int 0, .int 0, .int ((-1)), .int 0, .int 0, .long 0])), (c1, .inr (3, [.int 0, .ref em, .int 0])), (ou, .inl (cJ, 1, .inr (.inl ((fun _ => 0)))))] sz)) (va_A [(x, .inr (7, [.ref c1, .ref ps1, .ref lg, .int 9, .int 99, .int 0, .int 0, .int 0, .int ((-1)), .int 0, .int 0, .long 0])), (c1, .inr (3, [.int 0, .ref em, .int 0])), (ou, .inl (cJ, 1, .inr (.inl ((fun _ => 0)))))] sz)) 1 6 (va_A [(x, .inr (7, [.ref c1, .ref ps1, .ref lg, .int 9, .int 99, .int 0, .int 0, .int 0, .int ((-1)), .int 0, .int 0, .long 0])), (c1, .inr (3, [.int 0, .ref em, .int 0])), (ou, .inl (cJ, 1, .inr (.inl ((fun _ => 0)))))] sz) := by
  refine va_MetW (cc := cL_pass) (maxL := 4) (ret := (some .int)) (hh := [(0, 9, 12, 13)]) (by decide) rfl ?_
  intro p e s m args below meth c s₁ B hml hv
  obtain ⟨rfl, hsz, hP, hK, hD0, hF⟩ := hv
  have hx := B.exec
  have hb := B.bytes
  have hr := B.returns
  have hts := atoms_spec (ws := wsL_pass) B.pre
  have hown : s.vm.findClass RL = some m.cls := findClass_of_methodNamed B.named
  have hlocks := B.notSynchronized
  have htab := vx_table (x := yL_pass) B (hts _ List.mem_cons_self)
  subst hsz
  have hD := hD0.self (sz := s.heap.size)
  generalize hAe : va_A [(x, .inr (7, [.ref c1, .ref ps1, .ref lg, .int 9, .int 99, .int 0, .int 0, .int 0, .int ((-1)), .int 0, .int 0, .long 0])), (c1, .inr (3, [.int 0, .ref em, .int 0])), (ou, .inl (cJ, 1, .inr (.inl ((fun _ => 0)))))] s.heap.size = A at hD hF ⊢
  have hA : ∀ q : Nat, s.heap.size ≤ q → A q := fun q h => by rw [← hAe]; exact Or.inr h
  have hS : va_S A s.heap s.heap [] := va_S.rf
  have hP : va_P D vwCl [(x, .inr (7, [.ref c1, .ref ps1, .ref lg, .int 9, .int 99, .int 0, .int 0, .int 0, .int ((-1)), .int 0, .int 0, .long 0])), (c1, .inr (3, [.int 0, .ref em, .int 0])), (ou, .inl (cJ, 1, .inr (.inl ((fun _ => 0)))))] s.heap := hP
  have hl := lv_entry ([.ref x, .int p0, .ref ou]) (n := 4) (Nat.le_of_ble_eq_true rfl)
  rw [lg_entry_eq]
  generalize (lg_sl ([.ref x, .int p0, .ref ou]) ++ List.replicate (4 - (lg_sl ([.ref x, .int p0, .ref ou])).length) Slot.unset).toArray = ls at hl ⊢
  have hl : lv_has ls 4 [(0, .ref x), (1, .int p0), (2, .ref ou)] := hl
  refine lv_aload_n hx hb dL_pass_0 rfl (lv_at hl 2 rfl) ?_
  refine lv_iconst (v := 0) hx hb dL_pass_1 (by decide) ?_
  refine lv_aload_n hx hb dL_pass_2 rfl (lv_at hl 0 rfl) ?_
  refine lv_iload_n hx hb dL_pass_3 rfl (lv_at hl 1 rfl) ?_
  have hPc := hP.sub (ws' := [(x, .inr (7, [.ref c1, .ref ps1, .ref lg, .int 9, .int 99, .int 0, .int 0, .int 0, .int ((-1)), .int 0, .int 0, .long 0])), (c1, .inr (3, [.int 0, .ref em, .int 0]))]) [0, 1] rfl
  have hDc := hD.sub (ws' := [(x, .inr (7, [.ref c1, .ref ps1, .ref lg, .int 9, .int 99, .int 0, .int 0, .int 0, .int ((-1)), .int 0, .int 0, .long 0])), (c1, .inr (3, [.int 0, .ref em, .int 0]))]) [0, 1] (by decide) rfl
  have hKc := hK.sub (tys' := []) [] rfl
  have hFc := va_free (wc := [(x, .inr (7, [.ref c1, .ref ps1, .ref lg, .int 9, .int 99, .int 0, .int 0, .int 0, .int ((-1)), .int 0, .int 0, .long 0])), (c1, .inr (3, [.int 0, .ref em, .int 0]))]) hD hS hA [0, 1] rfl
  refine vx_calli (vx_runV (As := [.int p0]) (rest := [.int 0, .ref ou]) ⟨hx, hb, hml, hown, hts⟩ (c_X3_pass l hst em kw kb D x p0 c1 ps1 lg _) (cwV 1 hts gL_pass_X3_pass rfl rfl rfl (by decide +kernel) ⟨(Nat.le_of_ble_eq_true rfl), (Nat.le_of_ble_eq_true rfl)⟩) (tw_preV hF hS hFc hPc hKc hDc (va_recv hKc hPc (ci := 7) (q0 := 0) rfl rfl)) rfl rfl hl.1 rfl (lv_room (Nat.le_of_ble_eq_true rfl)) dL_pass_4 ⟨(Nat.le_of_ble_eq_true rfl), (Nat.le_of_ble_eq_true rfl)⟩) hS (fun q _ h => hFc q h) hFc (fun q _ h => hFc q h) (fun E ce q9 u t H locs ht hvm hw hB hz1 hk1 hS hce hcv hcl => ?_) (fun r u t H locs ht hvm hw hB hz1 hk1 hS => ?_)
  · obtain ⟨hE, hB⟩ := hB
    obtain ⟨g_1, rfl⟩ := hw
    subst hE
    obtain ⟨hP, hD, hK⟩ := tw_join (wr := [(ou, .inl (cJ, 1, .inr (.inl ((fun _ => 0)))))]) hP hD hK [0, 1] [2] rfl rfl (by decide) (by decide) hk1 hFc ht hvm hB
    have hP : va_P D vwCl [(ou, .inl (cJ, 1, .inr (.inl ((fun _ => 0)))))] _ := hP
    have hD : va_D A [(ou, .inl (cJ, 1, .inr (.inl ((fun _ => 0)))))] := hD
    have hK : va_K D vwCl [(cJ, .long)] s := hK
    refine vx_catch (name := "java/lang/IllegalArgumentException") hown [] (ExceptionTableEntry.mk 0 9 12 13) [] (by rw [htab]; rfl) (List.forall_mem_nil _) (by decide) (by decide) (hts (.classLink RL 13 "java/lang/IllegalArgumentException") (by decide +kernel)) (tw_cs hF (q := ("java/lang/IllegalArgumentException", "java/lang/IllegalArgumentException")) (by decide)) hce hcv hcl ?_
    refine W.widen (k := 1) (n := 6) (Nat.le_refl _) (Nat.le_refl _) ?_
    refine W.eq (g2 := F0 m 12 ls [.ref q9]) rfl ?_
    refine lv_astore_n (lv' := [(3, .ref q9), (0, .ref x), (1, .int p0), (2, .ref ou)]) hx hb dL_pass_12 rfl hl (by decide) rfl (fun ls hl => ?_)
    refine lv_iconst (v := 1) hx hb dL_pass_13 (by decide) ?_
    refine W.widen (k := 1) (n := 6) (Nat.le_of_ble_eq_true rfl) (Nat.le_of_ble_eq_true rfl) ?_
    have hP9 := hP.sub (ws' := [(ou, .inl (cJ, 1, .inr (.inl ((fun _ => 0)))))]) [0] rfl
    have hD9 := hD.sub (ws' := [(ou, .inl (cJ, 1, .inr (.inl ((fun _ => 0)))))]) [0] (by decide) rfl
    have hK9 := hK.sub (tys' := []) [] rfl
    exact W.iret (v := 1) hx hb hr (fun t ht hW => ⟨⟨1, ([(ou, .inl (cJ, 1, .inr (.inl ((fun _ => 0)))))], []), rfl, (Or.inl ⟨g_1, rfl, rfl⟩), by rw [ht]; exact hP9, va_K.moved hW.alike hK9, hD9⟩, hS.F ht⟩) hS.2.2 dL_pass_14
  · obtain ⟨g_2, hr9, rfl⟩ := hw
    subst r
    obtain ⟨hP, hD, hK⟩ := tw_join (wr := [(ou, .inl (cJ, 1, .inr (.inl ((fun _ => 0)))))]) hP hD hK [0, 1] [2] rfl rfl (by decide) (by decide) hk1 hFc ht hvm hB
    have hP : va_P D vwCl [(ou, .inl (cJ, 1, .inr (.inl ((fun _ => 0)))))] _ := hP
    have hD : va_D A [(ou, .inl (cJ, 1, .inr (.inl ((fun _ => 0)))))] := hD
    have hK : va_K D vwCl [(cJ, .long)] s := hK
    refine W.widen (k := 1) (n := 6) (Nat.le_refl _) (Nat.le_refl _) ?_
    refine W.eq (g2 := F0 m 7 ls [.int p0, .int 0, .ref ou]) rfl ?_
    refine lv_i2l (v := p0.toInt64) hx hb dL_pass_7 rfl ?_
    refine va_last hx hb hK hP hD hS 0 0 rfl rfl (by unfold vp_in; decide) dL_pass_8 (fun H locs hP hD hS => ?_)
    have hP : va_P D vwCl [(ou, .inl (cJ, 1, .inr (.inl (vp_updL ((fun _ => 0)) (0 : Int32).toNatClampNeg p0.toInt64))))] _ := hP
    have hD : va_D A [(ou, .inl (cJ, 1, .inr (.inl (vp_updL ((fun _ => 0)) (0 : Int32).toNatClampNeg p0.toInt64))))] := hD
    refine lv_goto (tgt := 15) hx hb dL_pass_9 (by decide) ?_
    refine lv_iconst (v := 0) hx hb dL_pass_15 (by decide) ?_
    refine W.widen (k := 1) (n := 6) (Nat.le_of_ble_eq_true rfl) (Nat.le_of_ble_eq_true rfl) ?_
    have hP9 := hP.sub (ws' := [(ou, .inl (cJ, 1, .inr (.inl (vp_updL ((fun _ => 0)) (0 : Int32).toNatClampNeg p0.toInt64))))]) [0] rfl
    have hD9 := hD.sub (ws' := [(ou, .inl (cJ, 1, .inr (.inl (vp_updL ((fun _ => 0)) (0 : Int32).toNatClampNeg p0.toInt64))))]) [0] (by decide) rfl
    have hK9 := hK.sub (tys' := []) [] rfl
    exact W.iret (v := 0) hx hb hr (fun t ht hW => ⟨⟨0, ([(ou, .inl (cJ, 1, .inr (.inl (vp_updL ((fun _ => 0)) (0 : Int32).toNatClampNeg p0.toInt64))))], []), rfl, (Or.inr (⟨g_2, rfl, rfl⟩)), by rw [ht]; exact hP9, va_K.moved hW.alike hK9, hD9⟩, hS.F ht⟩) hS.2.2 dL_pass_16
set_option maxHeartbeats 4000000 in
set_option maxRecDepth 100000 in
theorem c_L_promised (l : Launch) (hst : l.stackTraces = false) (em kw kb : Nat) (D : va_G) (x : Nat) (p0 : Int32) (p1 : Int32) (ou : Nat) (c1 : Nat) (ps1 : Nat) (lg : Nat) (cJ : ClassId) (sz : Nat) : Met l yL_promised wsL_promised ({ frames := 8, cells := 2, slots := 12, locals := 126 }) (va_Pc [.ref x, .int p0, .int p1, .ref ou] (tw_Pre em kw kb D sz [(x, .inr (7, [.ref c1, .ref ps1, .ref lg, .int 9, .int 99, .int 0, .int 0, .int 0, .int ((-1)), .int 0, .int 0, .long 0])), (c1, .inr (3, [.int 0, .ref em, .int 0])), (ou, .inl (cJ, 1, .inr (.inl ((fun _ => 0)))))] [(cJ, .long)])) (va_Qi (fun (r : Int32) (u : tw_U) => ((((p0 < 0) ∨ (¬ p0 < 0 ∧ 9 < p0))) ∧ r = 1 ∧ u = ([(ou, .inl (cJ, 1, .inr (.inl ((fun _ => 0)))))], [])) ∨ (((¬ p0 < 0 ∧ ¬ 9 < p0)) ∧ r = 2 ∧ u = ([(ou, .inl (cJ, 1, .inr (.inl ((fun _ => 0)))))], []))) (tw_B D (va_A [(x, .inr (7, [.ref c1, .ref ps1, .ref lg, .int 9, .int 99, .int 0, .int 0, .int 0, .int ((-1)), .int 0, .int 0, .long 0])), (c1, .inr (3, [.int 0, .ref em, .int 0])), (ou, .inl (cJ, 1, .inr (.inl ((fun _ => 0)))))] sz)) (va_A [(x, .inr (7, [.ref c1, .ref ps1, .ref lg, .int 9, .int 99, .int 0, .int 0, .int 0, .int ((-1)), .int 0, .int 0, .long 0])), (c1, .inr (3, [.int 0, .ref em, .int 0])), (ou, .inl (cJ, 1, .inr (.inl ((fun _ => 0)))))] sz)) 2 12 (va_A [(x, .inr (7, [.ref c1, .ref ps1, .ref lg, .int 9, .int 99, .int 0, .int 0, .int 0, .int ((-1)), .int 0, .int 0, .long 0])), (c1, .inr (3, [.int 0, .ref em, .int 0])), (ou, .inl (cJ, 1, .inr (.inl ((fun _ => 0)))))] sz) := by
  refine va_MetW (cc := cL_promised) (maxL := 5) (ret := (some .int)) (hh := [(0, 10, 13, 13), (0, 10, 17, 77)]) (by decide) rfl ?_
  intro p e s m args below meth c s₁ B hml hv
  obtain ⟨rfl, hsz, hP, hK, hD0, hF⟩ := hv
  have hx := B.exec
  have hb := B.bytes
  have hr := B.returns
  have hts := atoms_spec (ws := wsL_promised) B.pre
  have hown : s.vm.findClass RL = some m.cls := findClass_of_methodNamed B.named
  have hlocks := B.notSynchronized
  have htab := vx_table (x := yL_promised) B (hts _ List.mem_cons_self)
  subst hsz
  have hD := hD0.self (sz := s.heap.size)
  generalize hAe : va_A [(x, .inr (7, [.ref c1, .ref ps1, .ref lg, .int 9, .int 99, .int 0, .int 0, .int 0, .int ((-1)), .int 0, .int 0, .long 0])), (c1, .inr (3, [.int 0, .ref em, .int 0])), (ou, .inl (cJ, 1, .inr (.inl ((fun _ => 0)))))] s.heap.size = A at hD hF ⊢
  have hA : ∀ q : Nat, s.heap.size ≤ q → A q := fun q h => by rw [← hAe]; exact Or.inr h
  have hS : va_S A s.heap s.heap [] := va_S.rf
  have hP : va_P D vwCl [(x, .inr (7, [.ref c1, .ref ps1, .ref lg, .int 9, .int 99, .int 0, .int 0, .int 0, .int ((-1)), .int 0, .int 0, .long 0])), (c1, .inr (3, [.int 0, .ref em, .int 0])), (ou, .inl (cJ, 1, .inr (.inl ((fun _ => 0)))))] s.heap := hP
  have hl := lv_entry ([.ref x, .int p0, .int p1, .ref ou]) (n := 5) (Nat.le_of_ble_eq_true rfl)
  rw [lg_entry_eq]
  generalize (lg_sl ([.ref x, .int p0, .int p1, .ref ou]) ++ List.replicate (5 - (lg_sl ([.ref x, .int p0, .int p1, .ref ou])).length) Slot.unset).toArray = ls at hl ⊢
  have hl : lv_has ls 5 [(0, .ref x), (1, .int p0), (2, .int p1), (3, .ref ou)] := hl
  refine lv_aload_n hx hb dL_promised_0 rfl (lv_at hl 3 rfl) ?_
  refine lv_iconst (v := 0) hx hb dL_promised_1 (by decide) ?_
  refine lv_aload_n hx hb dL_promised_2 rfl (lv_at hl 0 rfl) ?_
  refine lv_iload_n hx hb dL_promised_3 rfl (lv_at hl 1 rfl) ?_
  refine lv_iload_n hx hb dL_promised_4 rfl (lv_at hl 2 rfl) ?_
  have hPc := hP.sub (ws' := [(x, .inr (7, [.ref c1, .ref ps1, .ref lg, .int 9, .int 99, .int 0, .int 0, .int 0, .int ((-1)), .int 0, .int 0, .long 0])), (c1, .inr (3, [.int 0, .ref em, .int 0]))]) [0, 1] rfl
  have hDc := hD.sub (ws' := [(x, .inr (7, [.ref c1, .ref ps1, .ref lg, .int 9, .int 99, .int 0, .int 0, .int 0, .int ((-1)), .int 0, .int 0, .long 0])), (c1, .inr (3, [.int 0, .ref em, .int 0]))]) [0, 1] (by decide) rfl
  have hKc := hK.sub (tys' := []) [] rfl
  have hFc := va_free (wc := [(x, .inr (7, [.ref c1, .ref ps1, .ref lg, .int 9, .int 99, .int 0, .int 0, .int 0, .int ((-1)), .int 0, .int 0, .long 0])), (c1, .inr (3, [.int 0, .ref em, .int 0]))]) hD hS hA [0, 1] rfl
  refine vx_calli (vx_runV (As := [.int p0, .int p1]) (rest := [.int 0, .ref ou]) ⟨hx, hb, hml, hown, hts⟩ (c_X3_promised l hst em kw kb D x p0 p1 c1 ps1 lg _) (cwV 2 hts gL_promised_X3_promised rfl rfl rfl (by decide +kernel) ⟨(Nat.le_of_ble_eq_true rfl), (Nat.le_of_ble_eq_true rfl)⟩) (tw_preV hF hS hFc hPc hKc hDc (va_recv hKc hPc (ci := 7) (q0 := 0) rfl rfl)) rfl rfl hl.1 rfl (lv_room (Nat.le_of_ble_eq_true rfl)) dL_promised_5 ⟨(Nat.le_of_ble_eq_true rfl), (Nat.le_of_ble_eq_true rfl)⟩) hS (fun q _ h => hFc q h) hFc (fun q _ h => hFc q h) (fun E ce q9 u t H locs ht hvm hw hB hz1 hk1 hS hce hcv hcl => ?_) (fun r u t H locs ht hvm hw hB hz1 hk1 hS => ?_)
  · obtain ⟨hE, hB⟩ := hB
    rcases hw with hw | hw
    · obtain ⟨g_1, rfl⟩ := hw
      subst hE
      obtain ⟨hP, hD, hK⟩ := tw_join (wr := [(ou, .inl (cJ, 1, .inr (.inl ((fun _ => 0)))))]) hP hD hK [0, 1] [2] rfl rfl (by decide) (by decide) hk1 hFc ht hvm hB
      have hP : va_P D vwCl [(ou, .inl (cJ, 1, .inr (.inl ((fun _ => 0)))))] _ := hP
      have hD : va_D A [(ou, .inl (cJ, 1, .inr (.inl ((fun _ => 0)))))] := hD
      have hK : va_K D vwCl [(cJ, .long)] s := hK
      refine vx_catch (name := "java/lang/IllegalArgumentException") hown [] (ExceptionTableEntry.mk 0 10 13 13) [ExceptionTableEntry.mk 0 10 17 77] (by rw [htab]; rfl) (List.forall_mem_nil _) (by decide) (by decide) (hts (.classLink RL 13 "java/lang/IllegalArgumentException") (by decide +kernel)) (tw_cs hF (q := ("java/lang/IllegalArgumentException", "java/lang/IllegalArgumentException")) (by decide)) hce hcv hcl ?_
      refine W.widen (k := 2) (n := 12) (Nat.le_refl _) (Nat.le_refl _) ?_
      refine W.eq (g2 := F0 m 13 ls [.ref q9]) rfl ?_
      refine lv_astore (lv' := [(4, .ref q9), (0, .ref x), (1, .int p0), (2, .int p1), (3, .ref ou)]) hx hb dL_promised_13 hl (by decide) rfl (fun ls hl => ?_)
      refine lv_iconst (v := 1) hx hb dL_promised_15 (by decide) ?_
      refine W.widen (k := 2) (n := 12) (Nat.le_of_ble_eq_true rfl) (Nat.le_of_ble_eq_true rfl) ?_
      have hP9 := hP.sub (ws' := [(ou, .inl (cJ, 1, .inr (.inl ((fun _ => 0)))))]) [0] rfl
      have hD9 := hD.sub (ws' := [(ou, .inl (cJ, 1, .inr (.inl ((fun _ => 0)))))]) [0] (by decide) rfl
      have hK9 := hK.sub (tys' := []) [] rfl
      exact W.iret (v := 1) hx hb hr (fun t ht hW => ⟨⟨1, ([(ou, .inl (cJ, 1, .inr (.inl ((fun _ => 0)))))], []), rfl, (Or.inl ⟨g_1, rfl, rfl⟩), by rw [ht]; exact hP9, va_K.moved hW.alike hK9, hD9⟩, hS.F ht⟩) hS.2.2 dL_promised_16
    · obtain ⟨g_2, rfl⟩ := hw
      subst hE
      obtain ⟨hP, hD, hK⟩ := tw_join (wr := [(ou, .inl (cJ, 1, .inr (.inl ((fun _ => 0)))))]) hP hD hK [0, 1] [2] rfl rfl (by decide) (by decide) hk1 hFc ht hvm hB
      have hP : va_P D vwCl [(ou, .inl (cJ, 1, .inr (.inl ((fun _ => 0)))))] _ := hP
      have hD : va_D A [(ou, .inl (cJ, 1, .inr (.inl ((fun _ => 0)))))] := hD
      have hK : va_K D vwCl [(cJ, .long)] s := hK
      refine vx_catch (name := "java/util/NoSuchElementException") hown [ExceptionTableEntry.mk 0 10 13 13] (ExceptionTableEntry.mk 0 10 17 77) [] (by rw [htab]; rfl) (List.forall_mem_cons.mpr ⟨Or.inr ⟨by decide, "java/lang/IllegalArgumentException", (hts (.classLink RL 13 "java/lang/IllegalArgumentException") (by decide +kernel)), tw_nc hF (q := ("java/util/NoSuchElementException", "java/lang/IllegalArgumentException")) (by decide)⟩, List.forall_mem_nil _⟩) (by decide) (by decide) (hts (.classLink RL 77 "java/util/NoSuchElementException") (by decide +kernel)) (tw_cs hF (q := ("java/util/NoSuchElementException", "java/util/NoSuchElementException")) (by decide)) hce hcv hcl ?_
      refine W.widen (k := 2) (n := 12) (Nat.le_refl _) (Nat.le_refl _) ?_
      refine W.eq (g2 := F0 m 17 ls [.ref q9]) rfl ?_
      refine lv_astore (lv' := [(4, .ref q9), (0, .ref x), (1, .int p0), (2, .int p1), (3, .ref ou)]) hx hb dL_promised_17 hl (by decide) rfl (fun ls hl => ?_)
      refine lv_iconst (v := 2) hx hb dL_promised_19 (by decide) ?_
      refine W.widen (k := 2) (n := 12) (Nat.le_of_ble_eq_true rfl) (Nat.le_of_ble_eq_true rfl) ?_
      have hP9 := hP.sub (ws' := [(ou, .inl (cJ, 1, .inr (.inl ((fun _ => 0)))))]) [0] rfl
      have hD9 := hD.sub (ws' := [(ou, .inl (cJ, 1, .inr (.inl ((fun _ => 0)))))]) [0] (by decide) rfl
      have hK9 := hK.sub (tys' := []) [] rfl
      exact W.iret (v := 2) hx hb hr (fun t ht hW => ⟨⟨2, ([(ou, .inl (cJ, 1, .inr (.inl ((fun _ => 0)))))], []), rfl, (Or.inr (⟨g_2, rfl, rfl⟩)), by rw [ht]; exact hP9, va_K.moved hW.alike hK9, hD9⟩, hS.F ht⟩) hS.2.2 dL_promised_20
  · exact hw.elim
set_option maxHeartbeats 4000000 in
set_option maxRecDepth 100000 in
theorem c_L_fire (l : Launch) (hst : l.stackTraces = false) (em kw kb : Nat) (D : va_G) (x : Nat) (p0 : Int32) (ou : Nat) (c1 : Nat) (ps1 : Nat) (lg : Nat) (cJ : ClassId) (sz : Nat) : Met l yL_fire wsL_fire ({ frames := 8, cells := 1, slots := 6, locals := 127 }) (va_Pc [.ref x, .int p0, .ref ou] (tw_Pre em kw kb D sz [(x, .inr (7, [.ref c1, .ref ps1, .ref lg, .int 9, .int 99, .int 0, .int 0, .int 0, .int ((-1)), .int 0, .int 0, .long 0])), (c1, .inr (3, [.int 0, .ref em, .int 0])), (ou, .inl (cJ, 1, .inr (.inl ((fun _ => 0)))))] [(cJ, .long)])) (va_Qi (fun (r : Int32) (u : tw_U) => ((((p0 < 0) ∨ (¬ p0 < 0 ∧ 9 < p0))) ∧ r = 1 ∧ u = ([(ou, .inl (cJ, 1, .inr (.inl ((fun _ => 0)))))], [])) ∨ (((¬ p0 < 0 ∧ ¬ 9 < p0)) ∧ r = 0 ∧ u = ([(ou, .inl (cJ, 1, .inr (.inl (vp_updL ((fun _ => 0)) (0 : Int32).toNatClampNeg 0))))], []))) (tw_B D (va_A [(x, .inr (7, [.ref c1, .ref ps1, .ref lg, .int 9, .int 99, .int 0, .int 0, .int 0, .int ((-1)), .int 0, .int 0, .long 0])), (c1, .inr (3, [.int 0, .ref em, .int 0])), (ou, .inl (cJ, 1, .inr (.inl ((fun _ => 0)))))] sz)) (va_A [(x, .inr (7, [.ref c1, .ref ps1, .ref lg, .int 9, .int 99, .int 0, .int 0, .int 0, .int ((-1)), .int 0, .int 0, .long 0])), (c1, .inr (3, [.int 0, .ref em, .int 0])), (ou, .inl (cJ, 1, .inr (.inl ((fun _ => 0)))))] sz)) 1 6 (va_A [(x, .inr (7, [.ref c1, .ref ps1, .ref lg, .int 9, .int 99, .int 0, .int 0, .int 0, .int ((-1)), .int 0, .int 0, .long 0])), (c1, .inr (3, [.int 0, .ref em, .int 0])), (ou, .inl (cJ, 1, .inr (.inl ((fun _ => 0)))))] sz) := by
  refine va_MetW (cc := cL_fire) (maxL := 4) (ret := (some .int)) (hh := [(0, 9, 12, 13)]) (by decide) rfl ?_
  intro p e s m args below meth c s₁ B hml hv
  obtain ⟨rfl, hsz, hP, hK, hD0, hF⟩ := hv
  have hx := B.exec
  have hb := B.bytes
  have hr := B.returns
  have hts := atoms_spec (ws := wsL_fire) B.pre
  have hown : s.vm.findClass RL = some m.cls := findClass_of_methodNamed B.named
  have hlocks := B.notSynchronized
  have htab := vx_table (x := yL_fire) B (hts _ List.mem_cons_self)
  subst hsz
  have hD := hD0.self (sz := s.heap.size)
  generalize hAe : va_A [(x, .inr (7, [.ref c1, .ref ps1, .ref lg, .int 9, .int 99, .int 0, .int 0, .int 0, .int ((-1)), .int 0, .int 0, .long 0])), (c1, .inr (3, [.int 0, .ref em, .int 0])), (ou, .inl (cJ, 1, .inr (.inl ((fun _ => 0)))))] s.heap.size = A at hD hF ⊢
  have hA : ∀ q : Nat, s.heap.size ≤ q → A q := fun q h => by rw [← hAe]; exact Or.inr h
  have hS : va_S A s.heap s.heap [] := va_S.rf
  have hP : va_P D vwCl [(x, .inr (7, [.ref c1, .ref ps1, .ref lg, .int 9, .int 99, .int 0, .int 0, .int 0, .int ((-1)), .int 0, .int 0, .long 0])), (c1, .inr (3, [.int 0, .ref em, .int 0])), (ou, .inl (cJ, 1, .inr (.inl ((fun _ => 0)))))] s.heap := hP
  have hl := lv_entry ([.ref x, .int p0, .ref ou]) (n := 4) (Nat.le_of_ble_eq_true rfl)
  rw [lg_entry_eq]
  generalize (lg_sl ([.ref x, .int p0, .ref ou]) ++ List.replicate (4 - (lg_sl ([.ref x, .int p0, .ref ou])).length) Slot.unset).toArray = ls at hl ⊢
  have hl : lv_has ls 4 [(0, .ref x), (1, .int p0), (2, .ref ou)] := hl
  refine lv_aload_n hx hb dL_fire_0 rfl (lv_at hl 2 rfl) ?_
  refine lv_iconst (v := 0) hx hb dL_fire_1 (by decide) ?_
  refine lv_aload_n hx hb dL_fire_2 rfl (lv_at hl 0 rfl) ?_
  refine lv_iload_n hx hb dL_fire_3 rfl (lv_at hl 1 rfl) ?_
  have hPc := hP.sub (ws' := [(x, .inr (7, [.ref c1, .ref ps1, .ref lg, .int 9, .int 99, .int 0, .int 0, .int 0, .int ((-1)), .int 0, .int 0, .long 0])), (c1, .inr (3, [.int 0, .ref em, .int 0]))]) [0, 1] rfl
  have hDc := hD.sub (ws' := [(x, .inr (7, [.ref c1, .ref ps1, .ref lg, .int 9, .int 99, .int 0, .int 0, .int 0, .int ((-1)), .int 0, .int 0, .long 0])), (c1, .inr (3, [.int 0, .ref em, .int 0]))]) [0, 1] (by decide) rfl
  have hKc := hK.sub (tys' := []) [] rfl
  have hFc := va_free (wc := [(x, .inr (7, [.ref c1, .ref ps1, .ref lg, .int 9, .int 99, .int 0, .int 0, .int 0, .int ((-1)), .int 0, .int 0, .long 0])), (c1, .inr (3, [.int 0, .ref em, .int 0]))]) hD hS hA [0, 1] rfl
  refine vx_calli (vx_runV (As := [.int p0]) (rest := [.int 0, .ref ou]) ⟨hx, hb, hml, hown, hts⟩ (c_X3_fire l hst em kw kb D x p0 c1 ps1 lg _) (cwV 1 hts gL_fire_X3_fire rfl rfl rfl (by decide +kernel) ⟨(Nat.le_of_ble_eq_true rfl), (Nat.le_of_ble_eq_true rfl)⟩) (tw_preV hF hS hFc hPc hKc hDc (va_recv hKc hPc (ci := 7) (q0 := 0) rfl rfl)) rfl rfl hl.1 rfl (lv_room (Nat.le_of_ble_eq_true rfl)) dL_fire_4 ⟨(Nat.le_of_ble_eq_true rfl), (Nat.le_of_ble_eq_true rfl)⟩) hS (fun q _ h => hFc q h) hFc (fun q _ h => hFc q h) (fun E ce q9 u t H locs ht hvm hw hB hz1 hk1 hS hce hcv hcl => ?_) (fun r u t H locs ht hvm hw hB hz1 hk1 hS => ?_)
  · obtain ⟨hE, hB⟩ := hB
    obtain ⟨g_1, rfl⟩ := hw
    subst hE
    obtain ⟨hP, hD, hK⟩ := tw_join (wr := [(ou, .inl (cJ, 1, .inr (.inl ((fun _ => 0)))))]) hP hD hK [0, 1] [2] rfl rfl (by decide) (by decide) hk1 hFc ht hvm hB
    have hP : va_P D vwCl [(ou, .inl (cJ, 1, .inr (.inl ((fun _ => 0)))))] _ := hP
    have hD : va_D A [(ou, .inl (cJ, 1, .inr (.inl ((fun _ => 0)))))] := hD
    have hK : va_K D vwCl [(cJ, .long)] s := hK
    refine vx_catch (name := "java/lang/IllegalArgumentException") hown [] (ExceptionTableEntry.mk 0 9 12 13) [] (by rw [htab]; rfl) (List.forall_mem_nil _) (by decide) (by decide) (hts (.classLink RL 13 "java/lang/IllegalArgumentException") (by decide +kernel)) (tw_cs hF (q := ("java/lang/IllegalArgumentException", "java/lang/IllegalArgumentException")) (by decide)) hce hcv hcl ?_
    refine W.widen (k := 1) (n := 6) (Nat.le_refl _) (Nat.le_refl _) ?_
    refine W.eq (g2 := F0 m 12 ls [.ref q9]) rfl ?_
    refine lv_astore_n (lv' := [(3, .ref q9), (0, .ref x), (1, .int p0), (2, .ref ou)]) hx hb dL_fire_12 rfl hl (by decide) rfl (fun ls hl => ?_)
    refine lv_iconst (v := 1) hx hb dL_fire_13 (by decide) ?_
    refine W.widen (k := 1) (n := 6) (Nat.le_of_ble_eq_true rfl) (Nat.le_of_ble_eq_true rfl) ?_
    have hP9 := hP.sub (ws' := [(ou, .inl (cJ, 1, .inr (.inl ((fun _ => 0)))))]) [0] rfl
    have hD9 := hD.sub (ws' := [(ou, .inl (cJ, 1, .inr (.inl ((fun _ => 0)))))]) [0] (by decide) rfl
    have hK9 := hK.sub (tys' := []) [] rfl
    exact W.iret (v := 1) hx hb hr (fun t ht hW => ⟨⟨1, ([(ou, .inl (cJ, 1, .inr (.inl ((fun _ => 0)))))], []), rfl, (Or.inl ⟨g_1, rfl, rfl⟩), by rw [ht]; exact hP9, va_K.moved hW.alike hK9, hD9⟩, hS.F ht⟩) hS.2.2 dL_fire_14
  · obtain ⟨g_2, rfl, rfl⟩ := hw
    obtain ⟨hP, hD, hK⟩ := tw_join (wr := [(ou, .inl (cJ, 1, .inr (.inl ((fun _ => 0)))))]) hP hD hK [0, 1] [2] rfl rfl (by decide) (by decide) hk1 hFc ht hvm hB
    have hP : va_P D vwCl [(ou, .inl (cJ, 1, .inr (.inl ((fun _ => 0)))))] _ := hP
    have hD : va_D A [(ou, .inl (cJ, 1, .inr (.inl ((fun _ => 0)))))] := hD
    have hK : va_K D vwCl [(cJ, .long)] s := hK
    refine W.widen (k := 1) (n := 6) (Nat.le_refl _) (Nat.le_refl _) ?_
    refine W.eq (g2 := F0 m 7 ls [.int 0, .int 0, .ref ou]) rfl ?_
    refine lv_i2l (v := 0) hx hb dL_fire_7 (by decide) ?_
    refine va_last hx hb hK hP hD hS 0 0 rfl rfl (by unfold vp_in; decide) dL_fire_8 (fun H locs hP hD hS => ?_)
    have hP : va_P D vwCl [(ou, .inl (cJ, 1, .inr (.inl (vp_updL ((fun _ => 0)) (0 : Int32).toNatClampNeg 0))))] _ := hP
    have hD : va_D A [(ou, .inl (cJ, 1, .inr (.inl (vp_updL ((fun _ => 0)) (0 : Int32).toNatClampNeg 0))))] := hD
    refine lv_goto (tgt := 15) hx hb dL_fire_9 (by decide) ?_
    refine lv_iconst (v := 0) hx hb dL_fire_15 (by decide) ?_
    refine W.widen (k := 1) (n := 6) (Nat.le_of_ble_eq_true rfl) (Nat.le_of_ble_eq_true rfl) ?_
    have hP9 := hP.sub (ws' := [(ou, .inl (cJ, 1, .inr (.inl (vp_updL ((fun _ => 0)) (0 : Int32).toNatClampNeg 0))))]) [0] rfl
    have hD9 := hD.sub (ws' := [(ou, .inl (cJ, 1, .inr (.inl (vp_updL ((fun _ => 0)) (0 : Int32).toNatClampNeg 0))))]) [0] (by decide) rfl
    have hK9 := hK.sub (tys' := []) [] rfl
    exact W.iret (v := 0) hx hb hr (fun t ht hW => ⟨⟨0, ([(ou, .inl (cJ, 1, .inr (.inl (vp_updL ((fun _ => 0)) (0 : Int32).toNatClampNeg 0))))], []), rfl, (Or.inr (⟨g_2, rfl, rfl⟩)), by rw [ht]; exact hP9, va_K.moved hW.alike hK9, hD9⟩, hS.F ht⟩) hS.2.2 dL_fire_16
set_option maxHeartbeats 4000000 in
set_option maxRecDepth 100000 in
theorem c_L_quake (l : Launch) (hst : l.stackTraces = false) (em kw kb : Nat) (D : va_G) (x : Nat) (p0 : Int32) (ou : Nat) (c1 : Nat) (ps1 : Nat) (lg : Nat) (cJ : ClassId) (sz : Nat) : Met l yL_quake wsL_quake ({ frames := 7, cells := 1, slots := 6, locals := 103 }) (va_Pc [.ref x, .int p0, .ref ou] (tw_Pre em kw kb D sz [(x, .inr (7, [.ref c1, .ref ps1, .ref lg, .int 9, .int 99, .int 0, .int 0, .int 0, .int ((-1)), .int 0, .int 0, .long 0])), (ou, .inl (cJ, 1, .inr (.inl ((fun _ => 0)))))] [(cJ, .long)])) (va_Qi (fun (r : Int32) (u : tw_U) => ((((p0 < 0) ∨ (¬ p0 < 0 ∧ ¬ p0 ≤ 99))) ∧ r = 1 ∧ u = ([(ou, .inl (cJ, 1, .inr (.inl ((fun _ => 0)))))], [])) ∨ (((¬ p0 < 0 ∧ p0 ≤ 99)) ∧ r = 0 ∧ u = ([(ou, .inl (cJ, 1, .inr (.inl (vp_updL ((fun _ => 0)) (0 : Int32).toNatClampNeg (((5 : Int32) + p0).toInt64)))))], []))) (tw_B D (va_A [(x, .inr (7, [.ref c1, .ref ps1, .ref lg, .int 9, .int 99, .int 0, .int 0, .int 0, .int ((-1)), .int 0, .int 0, .long 0])), (ou, .inl (cJ, 1, .inr (.inl ((fun _ => 0)))))] sz)) (va_A [(x, .inr (7, [.ref c1, .ref ps1, .ref lg, .int 9, .int 99, .int 0, .int 0, .int 0, .int ((-1)), .int 0, .int 0, .long 0])), (ou, .inl (cJ, 1, .inr (.inl ((fun _ => 0)))))] sz)) 1 6 (va_A [(x, .inr (7, [.ref c1, .ref ps1, .ref lg, .int 9, .int 99, .int 0, .int 0, .int 0, .int ((-1)), .int 0, .int 0, .long 0])), (ou, .inl (cJ, 1, .inr (.inl ((fun _ => 0)))))] sz) := by
  refine va_MetW (cc := cL_quake) (maxL := 4) (ret := (some .int)) (hh := [(0, 9, 12, 13)]) (by decide) rfl ?_
  intro p e s m args below meth c s₁ B hml hv
  obtain ⟨rfl, hsz, hP, hK, hD0, hF⟩ := hv
  have hx := B.exec
  have hb := B.bytes
  have hr := B.returns
  have hts := atoms_spec (ws := wsL_quake) B.pre
  have hown : s.vm.findClass RL = some m.cls := findClass_of_methodNamed B.named
  have hlocks := B.notSynchronized
  have htab := vx_table (x := yL_quake) B (hts _ List.mem_cons_self)
  subst hsz
  have hD := hD0.self (sz := s.heap.size)
  generalize hAe : va_A [(x, .inr (7, [.ref c1, .ref ps1, .ref lg, .int 9, .int 99, .int 0, .int 0, .int 0, .int ((-1)), .int 0, .int 0, .long 0])), (ou, .inl (cJ, 1, .inr (.inl ((fun _ => 0)))))] s.heap.size = A at hD hF ⊢
  have hA : ∀ q : Nat, s.heap.size ≤ q → A q := fun q h => by rw [← hAe]; exact Or.inr h
  have hS : va_S A s.heap s.heap [] := va_S.rf
  have hP : va_P D vwCl [(x, .inr (7, [.ref c1, .ref ps1, .ref lg, .int 9, .int 99, .int 0, .int 0, .int 0, .int ((-1)), .int 0, .int 0, .long 0])), (ou, .inl (cJ, 1, .inr (.inl ((fun _ => 0)))))] s.heap := hP
  have hl := lv_entry ([.ref x, .int p0, .ref ou]) (n := 4) (Nat.le_of_ble_eq_true rfl)
  rw [lg_entry_eq]
  generalize (lg_sl ([.ref x, .int p0, .ref ou]) ++ List.replicate (4 - (lg_sl ([.ref x, .int p0, .ref ou])).length) Slot.unset).toArray = ls at hl ⊢
  have hl : lv_has ls 4 [(0, .ref x), (1, .int p0), (2, .ref ou)] := hl
  refine lv_aload_n hx hb dL_quake_0 rfl (lv_at hl 2 rfl) ?_
  refine lv_iconst (v := 0) hx hb dL_quake_1 (by decide) ?_
  refine lv_aload_n hx hb dL_quake_2 rfl (lv_at hl 0 rfl) ?_
  refine lv_iload_n hx hb dL_quake_3 rfl (lv_at hl 1 rfl) ?_
  have hPc := hP.sub (ws' := [(x, .inr (7, [.ref c1, .ref ps1, .ref lg, .int 9, .int 99, .int 0, .int 0, .int 0, .int ((-1)), .int 0, .int 0, .long 0]))]) [0] rfl
  have hDc := hD.sub (ws' := [(x, .inr (7, [.ref c1, .ref ps1, .ref lg, .int 9, .int 99, .int 0, .int 0, .int 0, .int ((-1)), .int 0, .int 0, .long 0]))]) [0] (by decide) rfl
  have hKc := hK.sub (tys' := []) [] rfl
  have hFc := va_free (wc := [(x, .inr (7, [.ref c1, .ref ps1, .ref lg, .int 9, .int 99, .int 0, .int 0, .int 0, .int ((-1)), .int 0, .int 0, .long 0]))]) hD hS hA [0] rfl
  refine vx_calli (vx_runV (As := [.int p0]) (rest := [.int 0, .ref ou]) ⟨hx, hb, hml, hown, hts⟩ (c_X3_quake l hst em kw kb D x p0 c1 ps1 lg _) (cwV 1 hts gL_quake_X3_quake rfl rfl rfl (by decide +kernel) ⟨(Nat.le_of_ble_eq_true rfl), (Nat.le_of_ble_eq_true rfl)⟩) (tw_preV hF hS hFc hPc hKc hDc (va_recv hKc hPc (ci := 7) (q0 := 0) rfl rfl)) rfl rfl hl.1 rfl (lv_room (Nat.le_of_ble_eq_true rfl)) dL_quake_4 ⟨(Nat.le_of_ble_eq_true rfl), (Nat.le_of_ble_eq_true rfl)⟩) hS (fun q _ h => hFc q h) hFc (fun q _ h => hFc q h) (fun E ce q9 u t H locs ht hvm hw hB hz1 hk1 hS hce hcv hcl => ?_) (fun r u t H locs ht hvm hw hB hz1 hk1 hS => ?_)
  · obtain ⟨hE, hB⟩ := hB
    obtain ⟨g_1, rfl⟩ := hw
    subst hE
    obtain ⟨hP, hD, hK⟩ := tw_join (wr := [(ou, .inl (cJ, 1, .inr (.inl ((fun _ => 0)))))]) hP hD hK [0] [1] rfl rfl (by decide) (by decide) hk1 hFc ht hvm hB
    have hP : va_P D vwCl [(ou, .inl (cJ, 1, .inr (.inl ((fun _ => 0)))))] _ := hP
    have hD : va_D A [(ou, .inl (cJ, 1, .inr (.inl ((fun _ => 0)))))] := hD
    have hK : va_K D vwCl [(cJ, .long)] s := hK
    refine vx_catch (name := "java/lang/IllegalArgumentException") hown [] (ExceptionTableEntry.mk 0 9 12 13) [] (by rw [htab]; rfl) (List.forall_mem_nil _) (by decide) (by decide) (hts (.classLink RL 13 "java/lang/IllegalArgumentException") (by decide +kernel)) (tw_cs hF (q := ("java/lang/IllegalArgumentException", "java/lang/IllegalArgumentException")) (by decide)) hce hcv hcl ?_
    refine W.widen (k := 1) (n := 6) (Nat.le_refl _) (Nat.le_refl _) ?_
    refine W.eq (g2 := F0 m 12 ls [.ref q9]) rfl ?_
    refine lv_astore_n (lv' := [(3, .ref q9), (0, .ref x), (1, .int p0), (2, .ref ou)]) hx hb dL_quake_12 rfl hl (by decide) rfl (fun ls hl => ?_)
    refine lv_iconst (v := 1) hx hb dL_quake_13 (by decide) ?_
    refine W.widen (k := 1) (n := 6) (Nat.le_of_ble_eq_true rfl) (Nat.le_of_ble_eq_true rfl) ?_
    have hP9 := hP.sub (ws' := [(ou, .inl (cJ, 1, .inr (.inl ((fun _ => 0)))))]) [0] rfl
    have hD9 := hD.sub (ws' := [(ou, .inl (cJ, 1, .inr (.inl ((fun _ => 0)))))]) [0] (by decide) rfl
    have hK9 := hK.sub (tys' := []) [] rfl
    exact W.iret (v := 1) hx hb hr (fun t ht hW => ⟨⟨1, ([(ou, .inl (cJ, 1, .inr (.inl ((fun _ => 0)))))], []), rfl, (Or.inl ⟨g_1, rfl, rfl⟩), by rw [ht]; exact hP9, va_K.moved hW.alike hK9, hD9⟩, hS.F ht⟩) hS.2.2 dL_quake_14
  · obtain ⟨g_2, rfl, rfl⟩ := hw
    obtain ⟨hP, hD, hK⟩ := tw_join (wr := [(ou, .inl (cJ, 1, .inr (.inl ((fun _ => 0)))))]) hP hD hK [0] [1] rfl rfl (by decide) (by decide) hk1 hFc ht hvm hB
    have hP : va_P D vwCl [(ou, .inl (cJ, 1, .inr (.inl ((fun _ => 0)))))] _ := hP
    have hD : va_D A [(ou, .inl (cJ, 1, .inr (.inl ((fun _ => 0)))))] := hD
    have hK : va_K D vwCl [(cJ, .long)] s := hK
    refine W.widen (k := 1) (n := 6) (Nat.le_refl _) (Nat.le_refl _) ?_
    refine W.eq (g2 := F0 m 7 ls [.int ((5 : Int32) + p0), .int 0, .ref ou]) rfl ?_
    refine lv_i2l (v := (((5 : Int32) + p0).toInt64)) hx hb dL_quake_7 rfl ?_
    refine va_last hx hb hK hP hD hS 0 0 rfl rfl (by unfold vp_in; decide) dL_quake_8 (fun H locs hP hD hS => ?_)
    have hP : va_P D vwCl [(ou, .inl (cJ, 1, .inr (.inl (vp_updL ((fun _ => 0)) (0 : Int32).toNatClampNeg (((5 : Int32) + p0).toInt64)))))] _ := hP
    have hD : va_D A [(ou, .inl (cJ, 1, .inr (.inl (vp_updL ((fun _ => 0)) (0 : Int32).toNatClampNeg (((5 : Int32) + p0).toInt64)))))] := hD
    refine lv_goto (tgt := 15) hx hb dL_quake_9 (by decide) ?_
    refine lv_iconst (v := 0) hx hb dL_quake_15 (by decide) ?_
    refine W.widen (k := 1) (n := 6) (Nat.le_of_ble_eq_true rfl) (Nat.le_of_ble_eq_true rfl) ?_
    have hP9 := hP.sub (ws' := [(ou, .inl (cJ, 1, .inr (.inl (vp_updL ((fun _ => 0)) (0 : Int32).toNatClampNeg (((5 : Int32) + p0).toInt64)))))]) [0] rfl
    have hD9 := hD.sub (ws' := [(ou, .inl (cJ, 1, .inr (.inl (vp_updL ((fun _ => 0)) (0 : Int32).toNatClampNeg (((5 : Int32) + p0).toInt64)))))]) [0] (by decide) rfl
    have hK9 := hK.sub (tys' := []) [] rfl
    exact W.iret (v := 0) hx hb hr (fun t ht hW => ⟨⟨0, ([(ou, .inl (cJ, 1, .inr (.inl (vp_updL ((fun _ => 0)) (0 : Int32).toNatClampNeg (((5 : Int32) + p0).toInt64)))))], []), rfl, (Or.inr (⟨g_2, rfl, rfl⟩)), by rw [ht]; exact hP9, va_K.moved hW.alike hK9, hD9⟩, hS.F ht⟩) hS.2.2 dL_quake_16
set_option maxHeartbeats 4000000 in
set_option maxRecDepth 100000 in
theorem c_L_entryAt (l : Launch) (hst : l.stackTraces = false) (em kw kb : Nat) (D : va_G) (x : Nat) (p0 : Int32) (ou : Nat) (c1 : Nat) (ps1 : Nat) (lg : Nat) (en : Nat) (cJ : ClassId) (sz : Nat) : Met l yL_entryAt wsL_entryAt ({ frames := 8, cells := 1, slots := 6, locals := 124 }) (va_Pc [.ref x, .int p0, .ref ou] (tw_Pre em kw kb D sz [(x, .inr (7, [.ref c1, .ref ps1, .ref lg, .int 9, .int 99, .int 0, .int 0, .int 0, .int ((-1)), .int 0, .int 0, .long 0])), (lg, .inr (5, [.ref en, .int 0])), (ou, .inl (cJ, 1, .inr (.inl ((fun _ => 0)))))] [(cJ, .long)])) (va_Qi (fun (r : Int32) (u : tw_U) => r = 1 ∧ u = ([(ou, .inl (cJ, 1, .inr (.inl ((fun _ => 0)))))], [])) (tw_B D (va_A [(x, .inr (7, [.ref c1, .ref ps1, .ref lg, .int 9, .int 99, .int 0, .int 0, .int 0, .int ((-1)), .int 0, .int 0, .long 0])), (lg, .inr (5, [.ref en, .int 0])), (ou, .inl (cJ, 1, .inr (.inl ((fun _ => 0)))))] sz)) (va_A [(x, .inr (7, [.ref c1, .ref ps1, .ref lg, .int 9, .int 99, .int 0, .int 0, .int 0, .int ((-1)), .int 0, .int 0, .long 0])), (lg, .inr (5, [.ref en, .int 0])), (ou, .inl (cJ, 1, .inr (.inl ((fun _ => 0)))))] sz)) 1 6 (va_A [(x, .inr (7, [.ref c1, .ref ps1, .ref lg, .int 9, .int 99, .int 0, .int 0, .int 0, .int ((-1)), .int 0, .int 0, .long 0])), (lg, .inr (5, [.ref en, .int 0])), (ou, .inl (cJ, 1, .inr (.inl ((fun _ => 0)))))] sz) := by
  refine va_MetW (cc := cL_entryAt) (maxL := 4) (ret := (some .int)) (hh := [(0, 9, 12, 35)]) (by decide) rfl ?_
  intro p e s m args below meth c s₁ B hml hv
  obtain ⟨rfl, hsz, hP, hK, hD0, hF⟩ := hv
  have hx := B.exec
  have hb := B.bytes
  have hr := B.returns
  have hts := atoms_spec (ws := wsL_entryAt) B.pre
  have hown : s.vm.findClass RL = some m.cls := findClass_of_methodNamed B.named
  have hlocks := B.notSynchronized
  have htab := vx_table (x := yL_entryAt) B (hts _ List.mem_cons_self)
  subst hsz
  have hD := hD0.self (sz := s.heap.size)
  generalize hAe : va_A [(x, .inr (7, [.ref c1, .ref ps1, .ref lg, .int 9, .int 99, .int 0, .int 0, .int 0, .int ((-1)), .int 0, .int 0, .long 0])), (lg, .inr (5, [.ref en, .int 0])), (ou, .inl (cJ, 1, .inr (.inl ((fun _ => 0)))))] s.heap.size = A at hD hF ⊢
  have hA : ∀ q : Nat, s.heap.size ≤ q → A q := fun q h => by rw [← hAe]; exact Or.inr h
  have hS : va_S A s.heap s.heap [] := va_S.rf
  have hP : va_P D vwCl [(x, .inr (7, [.ref c1, .ref ps1, .ref lg, .int 9, .int 99, .int 0, .int 0, .int 0, .int ((-1)), .int 0, .int 0, .long 0])), (lg, .inr (5, [.ref en, .int 0])), (ou, .inl (cJ, 1, .inr (.inl ((fun _ => 0)))))] s.heap := hP
  have hl := lv_entry ([.ref x, .int p0, .ref ou]) (n := 4) (Nat.le_of_ble_eq_true rfl)
  rw [lg_entry_eq]
  generalize (lg_sl ([.ref x, .int p0, .ref ou]) ++ List.replicate (4 - (lg_sl ([.ref x, .int p0, .ref ou])).length) Slot.unset).toArray = ls at hl ⊢
  have hl : lv_has ls 4 [(0, .ref x), (1, .int p0), (2, .ref ou)] := hl
  refine lv_aload_n hx hb dL_entryAt_0 rfl (lv_at hl 2 rfl) ?_
  refine lv_iconst (v := 0) hx hb dL_entryAt_1 (by decide) ?_
  refine lv_aload_n hx hb dL_entryAt_2 rfl (lv_at hl 0 rfl) ?_
  refine lv_iload_n hx hb dL_entryAt_3 rfl (lv_at hl 1 rfl) ?_
  have hPc := hP.sub (ws' := [(x, .inr (7, [.ref c1, .ref ps1, .ref lg, .int 9, .int 99, .int 0, .int 0, .int 0, .int ((-1)), .int 0, .int 0, .long 0])), (lg, .inr (5, [.ref en, .int 0]))]) [0, 1] rfl
  have hDc := hD.sub (ws' := [(x, .inr (7, [.ref c1, .ref ps1, .ref lg, .int 9, .int 99, .int 0, .int 0, .int 0, .int ((-1)), .int 0, .int 0, .long 0])), (lg, .inr (5, [.ref en, .int 0]))]) [0, 1] (by decide) rfl
  have hKc := hK.sub (tys' := []) [] rfl
  have hFc := va_free (wc := [(x, .inr (7, [.ref c1, .ref ps1, .ref lg, .int 9, .int 99, .int 0, .int 0, .int 0, .int ((-1)), .int 0, .int 0, .long 0])), (lg, .inr (5, [.ref en, .int 0]))]) hD hS hA [0, 1] rfl
  refine vx_calli (vx_runV (As := [.int p0]) (rest := [.int 0, .ref ou]) ⟨hx, hb, hml, hown, hts⟩ (c_X3_entryAt l hst em kw kb D x p0 c1 ps1 lg en _) (cwV 1 hts gL_entryAt_X3_entryAt rfl rfl rfl (by decide +kernel) ⟨(Nat.le_of_ble_eq_true rfl), (Nat.le_of_ble_eq_true rfl)⟩) (tw_preV hF hS hFc hPc hKc hDc (va_recv hKc hPc (ci := 7) (q0 := 0) rfl rfl)) rfl rfl hl.1 rfl (lv_room (Nat.le_of_ble_eq_true rfl)) dL_entryAt_4 ⟨(Nat.le_of_ble_eq_true rfl), (Nat.le_of_ble_eq_true rfl)⟩) hS (fun q _ h => hFc q h) hFc (fun q _ h => hFc q h) (fun E ce q9 u t H locs ht hvm hw hB hz1 hk1 hS hce hcv hcl => ?_) (fun r u t H locs ht hvm hw hB hz1 hk1 hS => ?_)
  · obtain ⟨hE, hB⟩ := hB
    subst hw
    subst hE
    obtain ⟨hP, hD, hK⟩ := tw_join (wr := [(ou, .inl (cJ, 1, .inr (.inl ((fun _ => 0)))))]) hP hD hK [0, 1] [2] rfl rfl (by decide) (by decide) hk1 hFc ht hvm hB
    have hP : va_P D vwCl [(ou, .inl (cJ, 1, .inr (.inl ((fun _ => 0)))))] _ := hP
    have hD : va_D A [(ou, .inl (cJ, 1, .inr (.inl ((fun _ => 0)))))] := hD
    have hK : va_K D vwCl [(cJ, .long)] s := hK
    refine vx_catch (name := "java/lang/IndexOutOfBoundsException") hown [] (ExceptionTableEntry.mk 0 9 12 35) [] (by rw [htab]; rfl) (List.forall_mem_nil _) (by decide) (by decide) (hts (.classLink RL 35 "java/lang/IndexOutOfBoundsException") (by decide +kernel)) (tw_cs hF (q := ("java/lang/IndexOutOfBoundsException", "java/lang/IndexOutOfBoundsException")) (by decide)) hce hcv hcl ?_
    refine W.widen (k := 1) (n := 6) (Nat.le_refl _) (Nat.le_refl _) ?_
    refine W.eq (g2 := F0 m 12 ls [.ref q9]) rfl ?_
    refine lv_astore_n (lv' := [(3, .ref q9), (0, .ref x), (1, .int p0), (2, .ref ou)]) hx hb dL_entryAt_12 rfl hl (by decide) rfl (fun ls hl => ?_)
    refine lv_iconst (v := 1) hx hb dL_entryAt_13 (by decide) ?_
    refine W.widen (k := 1) (n := 6) (Nat.le_of_ble_eq_true rfl) (Nat.le_of_ble_eq_true rfl) ?_
    have hP9 := hP.sub (ws' := [(ou, .inl (cJ, 1, .inr (.inl ((fun _ => 0)))))]) [0] rfl
    have hD9 := hD.sub (ws' := [(ou, .inl (cJ, 1, .inr (.inl ((fun _ => 0)))))]) [0] (by decide) rfl
    have hK9 := hK.sub (tys' := []) [] rfl
    exact W.iret (v := 1) hx hb hr (fun t ht hW => ⟨⟨1, ([(ou, .inl (cJ, 1, .inr (.inl ((fun _ => 0)))))], []), rfl, ⟨rfl, rfl⟩, by rw [ht]; exact hP9, va_K.moved hW.alike hK9, hD9⟩, hS.F ht⟩) hS.2.2 dL_entryAt_14
  · exact hw.elim
set_option maxHeartbeats 4000000 in
set_option maxRecDepth 100000 in
theorem c_L_entryOf (l : Launch) (hst : l.stackTraces = false) (em kw kb : Nat) (D : va_G) (x : Nat) (p0 : Int32) (p1 : Int32) (ou : Nat) (c1 : Nat) (ps1 : Nat) (lg : Nat) (en : Nat) (cJ : ClassId) (sz : Nat) : Met l yL_entryOf wsL_entryOf ({ frames := 8, cells := 1, slots := 6, locals := 125 }) (va_Pc [.ref x, .int p0, .int p1, .ref ou] (tw_Pre em kw kb D sz [(x, .inr (7, [.ref c1, .ref ps1, .ref lg, .int 9, .int 99, .int 0, .int 0, .int 0, .int ((-1)), .int 0, .int 0, .long 0])), (lg, .inr (5, [.ref en, .int 0])), (ou, .inl (cJ, 1, .inr (.inl ((fun _ => 0)))))] [(cJ, .long)])) (va_Qi (fun (r : Int32) (u : tw_U) => r = 1 ∧ u = ([(ou, .inl (cJ, 1, .inr (.inl ((fun _ => 0)))))], [])) (tw_B D (va_A [(x, .inr (7, [.ref c1, .ref ps1, .ref lg, .int 9, .int 99, .int 0, .int 0, .int 0, .int ((-1)), .int 0, .int 0, .long 0])), (lg, .inr (5, [.ref en, .int 0])), (ou, .inl (cJ, 1, .inr (.inl ((fun _ => 0)))))] sz)) (va_A [(x, .inr (7, [.ref c1, .ref ps1, .ref lg, .int 9, .int 99, .int 0, .int 0, .int 0, .int ((-1)), .int 0, .int 0, .long 0])), (lg, .inr (5, [.ref en, .int 0])), (ou, .inl (cJ, 1, .inr (.inl ((fun _ => 0)))))] sz)) 1 6 (va_A [(x, .inr (7, [.ref c1, .ref ps1, .ref lg, .int 9, .int 99, .int 0, .int 0, .int 0, .int ((-1)), .int 0, .int 0, .long 0])), (lg, .inr (5, [.ref en, .int 0])), (ou, .inl (cJ, 1, .inr (.inl ((fun _ => 0)))))] sz) := by
  refine va_MetW (cc := cL_entryOf) (maxL := 5) (ret := (some .int)) (hh := [(0, 10, 13, 35), (0, 10, 17, 13)]) (by decide) rfl ?_
  intro p e s m args below meth c s₁ B hml hv
  obtain ⟨rfl, hsz, hP, hK, hD0, hF⟩ := hv
  have hx := B.exec
  have hb := B.bytes
  have hr := B.returns
  have hts := atoms_spec (ws := wsL_entryOf) B.pre
  have hown : s.vm.findClass RL = some m.cls := findClass_of_methodNamed B.named
  have hlocks := B.notSynchronized
  have htab := vx_table (x := yL_entryOf) B (hts _ List.mem_cons_self)
  subst hsz
  have hD := hD0.self (sz := s.heap.size)
  generalize hAe : va_A [(x, .inr (7, [.ref c1, .ref ps1, .ref lg, .int 9, .int 99, .int 0, .int 0, .int 0, .int ((-1)), .int 0, .int 0, .long 0])), (lg, .inr (5, [.ref en, .int 0])), (ou, .inl (cJ, 1, .inr (.inl ((fun _ => 0)))))] s.heap.size = A at hD hF ⊢
  have hA : ∀ q : Nat, s.heap.size ≤ q → A q := fun q h => by rw [← hAe]; exact Or.inr h
  have hS : va_S A s.heap s.heap [] := va_S.rf
  have hP : va_P D vwCl [(x, .inr (7, [.ref c1, .ref ps1, .ref lg, .int 9, .int 99, .int 0, .int 0, .int 0, .int ((-1)), .int 0, .int 0, .long 0])), (lg, .inr (5, [.ref en, .int 0])), (ou, .inl (cJ, 1, .inr (.inl ((fun _ => 0)))))] s.heap := hP
  have hl := lv_entry ([.ref x, .int p0, .int p1, .ref ou]) (n := 5) (Nat.le_of_ble_eq_true rfl)
  rw [lg_entry_eq]
  generalize (lg_sl ([.ref x, .int p0, .int p1, .ref ou]) ++ List.replicate (5 - (lg_sl ([.ref x, .int p0, .int p1, .ref ou])).length) Slot.unset).toArray = ls at hl ⊢
  have hl : lv_has ls 5 [(0, .ref x), (1, .int p0), (2, .int p1), (3, .ref ou)] := hl
  refine lv_aload_n hx hb dL_entryOf_0 rfl (lv_at hl 3 rfl) ?_
  refine lv_iconst (v := 0) hx hb dL_entryOf_1 (by decide) ?_
  refine lv_aload_n hx hb dL_entryOf_2 rfl (lv_at hl 0 rfl) ?_
  refine lv_iload_n hx hb dL_entryOf_3 rfl (lv_at hl 1 rfl) ?_
  refine lv_iload_n hx hb dL_entryOf_4 rfl (lv_at hl 2 rfl) ?_
  have hPc := hP.sub (ws' := [(x, .inr (7, [.ref c1, .ref ps1, .ref lg, .int 9, .int 99, .int 0, .int 0, .int 0, .int ((-1)), .int 0, .int 0, .long 0])), (lg, .inr (5, [.ref en, .int 0]))]) [0, 1] rfl
  have hDc := hD.sub (ws' := [(x, .inr (7, [.ref c1, .ref ps1, .ref lg, .int 9, .int 99, .int 0, .int 0, .int 0, .int ((-1)), .int 0, .int 0, .long 0])), (lg, .inr (5, [.ref en, .int 0]))]) [0, 1] (by decide) rfl
  have hKc := hK.sub (tys' := []) [] rfl
  have hFc := va_free (wc := [(x, .inr (7, [.ref c1, .ref ps1, .ref lg, .int 9, .int 99, .int 0, .int 0, .int 0, .int ((-1)), .int 0, .int 0, .long 0])), (lg, .inr (5, [.ref en, .int 0]))]) hD hS hA [0, 1] rfl
  refine vx_calli (vx_runV (As := [.int p0, .int p1]) (rest := [.int 0, .ref ou]) ⟨hx, hb, hml, hown, hts⟩ (c_X3_entryOf l hst em kw kb D x p0 p1 c1 ps1 lg en _) (cwV 2 hts gL_entryOf_X3_entryOf rfl rfl rfl (by decide +kernel) ⟨(Nat.le_of_ble_eq_true rfl), (Nat.le_of_ble_eq_true rfl)⟩) (tw_preV hF hS hFc hPc hKc hDc (va_recv hKc hPc (ci := 7) (q0 := 0) rfl rfl)) rfl rfl hl.1 rfl (lv_room (Nat.le_of_ble_eq_true rfl)) dL_entryOf_5 ⟨(Nat.le_of_ble_eq_true rfl), (Nat.le_of_ble_eq_true rfl)⟩) hS (fun q _ h => hFc q h) hFc (fun q _ h => hFc q h) (fun E ce q9 u t H locs ht hvm hw hB hz1 hk1 hS hce hcv hcl => ?_) (fun r u t H locs ht hvm hw hB hz1 hk1 hS => ?_)
  · obtain ⟨hE, hB⟩ := hB
    subst hw
    subst hE
    obtain ⟨hP, hD, hK⟩ := tw_join (wr := [(ou, .inl (cJ, 1, .inr (.inl ((fun _ => 0)))))]) hP hD hK [0, 1] [2] rfl rfl (by decide) (by decide) hk1 hFc ht hvm hB
    have hP : va_P D vwCl [(ou, .inl (cJ, 1, .inr (.inl ((fun _ => 0)))))] _ := hP
    have hD : va_D A [(ou, .inl (cJ, 1, .inr (.inl ((fun _ => 0)))))] := hD
    have hK : va_K D vwCl [(cJ, .long)] s := hK
    refine vx_catch (name := "java/lang/IndexOutOfBoundsException") hown [] (ExceptionTableEntry.mk 0 10 13 35) [ExceptionTableEntry.mk 0 10 17 13] (by rw [htab]; rfl) (List.forall_mem_nil _) (by decide) (by decide) (hts (.classLink RL 35 "java/lang/IndexOutOfBoundsException") (by decide +kernel)) (tw_cs hF (q := ("java/lang/IndexOutOfBoundsException", "java/lang/IndexOutOfBoundsException")) (by decide)) hce hcv hcl ?_
    refine W.widen (k := 1) (n := 6) (Nat.le_refl _) (Nat.le_refl _) ?_
    refine W.eq (g2 := F0 m 13 ls [.ref q9]) rfl ?_
    refine lv_astore (lv' := [(4, .ref q9), (0, .ref x), (1, .int p0), (2, .int p1), (3, .ref ou)]) hx hb dL_entryOf_13 hl (by decide) rfl (fun ls hl => ?_)
    refine lv_iconst (v := 1) hx hb dL_entryOf_15 (by decide) ?_
    refine W.widen (k := 1) (n := 6) (Nat.le_of_ble_eq_true rfl) (Nat.le_of_ble_eq_true rfl) ?_
    have hP9 := hP.sub (ws' := [(ou, .inl (cJ, 1, .inr (.inl ((fun _ => 0)))))]) [0] rfl
    have hD9 := hD.sub (ws' := [(ou, .inl (cJ, 1, .inr (.inl ((fun _ => 0)))))]) [0] (by decide) rfl
    have hK9 := hK.sub (tys' := []) [] rfl
    exact W.iret (v := 1) hx hb hr (fun t ht hW => ⟨⟨1, ([(ou, .inl (cJ, 1, .inr (.inl ((fun _ => 0)))))], []), rfl, ⟨rfl, rfl⟩, by rw [ht]; exact hP9, va_K.moved hW.alike hK9, hD9⟩, hS.F ht⟩) hS.2.2 dL_entryOf_16
  · exact hw.elim
set_option maxHeartbeats 4000000 in
set_option maxRecDepth 100000 in
theorem c_L_people (l : Launch) (hst : l.stackTraces = false) (em kw kb : Nat) (D : va_G) (x : Nat) (p0 : Int32) (ou : Nat) (c1 : Nat) (ps1 : Nat) (lg : Nat) (cJ : ClassId) (sz : Nat) : Met l yL_people wsL_people ({ frames := 7, cells := 1, slots := 6, locals := 103 }) (va_Pc [.ref x, .int p0, .ref ou] (tw_Pre em kw kb D sz [(x, .inr (7, [.ref c1, .ref ps1, .ref lg, .int 9, .int 99, .int 0, .int 0, .int 0, .int ((-1)), .int 0, .int 0, .long 0])), (ps1, .inr (3, [.int 0, .ref em, .int 0])), (ou, .inl (cJ, 1, .inr (.inl ((fun _ => 0)))))] [(cJ, .long)])) (va_Qi (fun (r : Int32) (u : tw_U) => (((¬ p0 = 119 ∧ ¬ p0 = 105 ∧ ¬ p0 = 100 ∧ ¬ p0 = 115 ∧ ¬ p0 = 114)) ∧ r = 1 ∧ u = ([(ou, .inl (cJ, 1, .inr (.inl ((fun _ => 0)))))], [])) ∨ ((((p0 = 119) ∨ (¬ p0 = 119 ∧ p0 = 105) ∨ (¬ p0 = 119 ∧ ¬ p0 = 105 ∧ p0 = 100) ∨ (¬ p0 = 119 ∧ ¬ p0 = 105 ∧ ¬ p0 = 100 ∧ p0 = 115) ∨ (¬ p0 = 119 ∧ ¬ p0 = 105 ∧ ¬ p0 = 100 ∧ ¬ p0 = 115 ∧ p0 = 114))) ∧ r = 0 ∧ u = ([(ou, .inl (cJ, 1, .inr (.inl (vp_updL ((fun _ => 0)) (0 : Int32).toNatClampNeg 0))))], []))) (tw_B D (va_A [(x, .inr (7, [.ref c1, .ref ps1, .ref lg, .int 9, .int 99, .int 0, .int 0, .int 0, .int ((-1)), .int 0, .int 0, .long 0])), (ps1, .inr (3, [.int 0, .ref em, .int 0])), (ou, .inl (cJ, 1, .inr (.inl ((fun _ => 0)))))] sz)) (va_A [(x, .inr (7, [.ref c1, .ref ps1, .ref lg, .int 9, .int 99, .int 0, .int 0, .int 0, .int ((-1)), .int 0, .int 0, .long 0])), (ps1, .inr (3, [.int 0, .ref em, .int 0])), (ou, .inl (cJ, 1, .inr (.inl ((fun _ => 0)))))] sz)) 1 6 (va_A [(x, .inr (7, [.ref c1, .ref ps1, .ref lg, .int 9, .int 99, .int 0, .int 0, .int 0, .int ((-1)), .int 0, .int 0, .long 0])), (ps1, .inr (3, [.int 0, .ref em, .int 0])), (ou, .inl (cJ, 1, .inr (.inl ((fun _ => 0)))))] sz) := by
  refine va_MetW (cc := cL_people) (maxL := 4) (ret := (some .int)) (hh := [(0, 9, 12, 13)]) (by decide) rfl ?_
  intro p e s m args below meth c s₁ B hml hv
  obtain ⟨rfl, hsz, hP, hK, hD0, hF⟩ := hv
  have hx := B.exec
  have hb := B.bytes
  have hr := B.returns
  have hts := atoms_spec (ws := wsL_people) B.pre
  have hown : s.vm.findClass RL = some m.cls := findClass_of_methodNamed B.named
  have hlocks := B.notSynchronized
  have htab := vx_table (x := yL_people) B (hts _ List.mem_cons_self)
  subst hsz
  have hD := hD0.self (sz := s.heap.size)
  generalize hAe : va_A [(x, .inr (7, [.ref c1, .ref ps1, .ref lg, .int 9, .int 99, .int 0, .int 0, .int 0, .int ((-1)), .int 0, .int 0, .long 0])), (ps1, .inr (3, [.int 0, .ref em, .int 0])), (ou, .inl (cJ, 1, .inr (.inl ((fun _ => 0)))))] s.heap.size = A at hD hF ⊢
  have hA : ∀ q : Nat, s.heap.size ≤ q → A q := fun q h => by rw [← hAe]; exact Or.inr h
  have hS : va_S A s.heap s.heap [] := va_S.rf
  have hP : va_P D vwCl [(x, .inr (7, [.ref c1, .ref ps1, .ref lg, .int 9, .int 99, .int 0, .int 0, .int 0, .int ((-1)), .int 0, .int 0, .long 0])), (ps1, .inr (3, [.int 0, .ref em, .int 0])), (ou, .inl (cJ, 1, .inr (.inl ((fun _ => 0)))))] s.heap := hP
  have hl := lv_entry ([.ref x, .int p0, .ref ou]) (n := 4) (Nat.le_of_ble_eq_true rfl)
  rw [lg_entry_eq]
  generalize (lg_sl ([.ref x, .int p0, .ref ou]) ++ List.replicate (4 - (lg_sl ([.ref x, .int p0, .ref ou])).length) Slot.unset).toArray = ls at hl ⊢
  have hl : lv_has ls 4 [(0, .ref x), (1, .int p0), (2, .ref ou)] := hl
  refine lv_aload_n hx hb dL_people_0 rfl (lv_at hl 2 rfl) ?_
  refine lv_iconst (v := 0) hx hb dL_people_1 (by decide) ?_
  refine lv_aload_n hx hb dL_people_2 rfl (lv_at hl 0 rfl) ?_
  refine lv_iload_n hx hb dL_people_3 rfl (lv_at hl 1 rfl) ?_
  have hPc := hP.sub (ws' := [(x, .inr (7, [.ref c1, .ref ps1, .ref lg, .int 9, .int 99, .int 0, .int 0, .int 0, .int ((-1)), .int 0, .int 0, .long 0])), (ps1, .inr (3, [.int 0, .ref em, .int 0]))]) [0, 1] rfl
  have hDc := hD.sub (ws' := [(x, .inr (7, [.ref c1, .ref ps1, .ref lg, .int 9, .int 99, .int 0, .int 0, .int 0, .int ((-1)), .int 0, .int 0, .long 0])), (ps1, .inr (3, [.int 0, .ref em, .int 0]))]) [0, 1] (by decide) rfl
  have hKc := hK.sub (tys' := []) [] rfl
  have hFc := va_free (wc := [(x, .inr (7, [.ref c1, .ref ps1, .ref lg, .int 9, .int 99, .int 0, .int 0, .int 0, .int ((-1)), .int 0, .int 0, .long 0])), (ps1, .inr (3, [.int 0, .ref em, .int 0]))]) hD hS hA [0, 1] rfl
  refine vx_calli (vx_runV (As := [.int p0]) (rest := [.int 0, .ref ou]) ⟨hx, hb, hml, hown, hts⟩ (c_X3_people l hst em kw kb D x p0 c1 ps1 lg _) (cwV 1 hts gL_people_X3_people rfl rfl rfl (by decide +kernel) ⟨(Nat.le_of_ble_eq_true rfl), (Nat.le_of_ble_eq_true rfl)⟩) (tw_preV hF hS hFc hPc hKc hDc (va_recv hKc hPc (ci := 7) (q0 := 0) rfl rfl)) rfl rfl hl.1 rfl (lv_room (Nat.le_of_ble_eq_true rfl)) dL_people_4 ⟨(Nat.le_of_ble_eq_true rfl), (Nat.le_of_ble_eq_true rfl)⟩) hS (fun q _ h => hFc q h) hFc (fun q _ h => hFc q h) (fun E ce q9 u t H locs ht hvm hw hB hz1 hk1 hS hce hcv hcl => ?_) (fun r u t H locs ht hvm hw hB hz1 hk1 hS => ?_)
  · obtain ⟨hE, hB⟩ := hB
    obtain ⟨g_1, rfl⟩ := hw
    subst hE
    obtain ⟨hP, hD, hK⟩ := tw_join (wr := [(ou, .inl (cJ, 1, .inr (.inl ((fun _ => 0)))))]) hP hD hK [0, 1] [2] rfl rfl (by decide) (by decide) hk1 hFc ht hvm hB
    have hP : va_P D vwCl [(ou, .inl (cJ, 1, .inr (.inl ((fun _ => 0)))))] _ := hP
    have hD : va_D A [(ou, .inl (cJ, 1, .inr (.inl ((fun _ => 0)))))] := hD
    have hK : va_K D vwCl [(cJ, .long)] s := hK
    refine vx_catch (name := "java/lang/IllegalArgumentException") hown [] (ExceptionTableEntry.mk 0 9 12 13) [] (by rw [htab]; rfl) (List.forall_mem_nil _) (by decide) (by decide) (hts (.classLink RL 13 "java/lang/IllegalArgumentException") (by decide +kernel)) (tw_cs hF (q := ("java/lang/IllegalArgumentException", "java/lang/IllegalArgumentException")) (by decide)) hce hcv hcl ?_
    refine W.widen (k := 1) (n := 6) (Nat.le_refl _) (Nat.le_refl _) ?_
    refine W.eq (g2 := F0 m 12 ls [.ref q9]) rfl ?_
    refine lv_astore_n (lv' := [(3, .ref q9), (0, .ref x), (1, .int p0), (2, .ref ou)]) hx hb dL_people_12 rfl hl (by decide) rfl (fun ls hl => ?_)
    refine lv_iconst (v := 1) hx hb dL_people_13 (by decide) ?_
    refine W.widen (k := 1) (n := 6) (Nat.le_of_ble_eq_true rfl) (Nat.le_of_ble_eq_true rfl) ?_
    have hP9 := hP.sub (ws' := [(ou, .inl (cJ, 1, .inr (.inl ((fun _ => 0)))))]) [0] rfl
    have hD9 := hD.sub (ws' := [(ou, .inl (cJ, 1, .inr (.inl ((fun _ => 0)))))]) [0] (by decide) rfl
    have hK9 := hK.sub (tys' := []) [] rfl
    exact W.iret (v := 1) hx hb hr (fun t ht hW => ⟨⟨1, ([(ou, .inl (cJ, 1, .inr (.inl ((fun _ => 0)))))], []), rfl, (Or.inl ⟨g_1, rfl, rfl⟩), by rw [ht]; exact hP9, va_K.moved hW.alike hK9, hD9⟩, hS.F ht⟩) hS.2.2 dL_people_14
  · obtain ⟨g_2, rfl, rfl⟩ := hw
    obtain ⟨hP, hD, hK⟩ := tw_join (wr := [(ou, .inl (cJ, 1, .inr (.inl ((fun _ => 0)))))]) hP hD hK [0, 1] [2] rfl rfl (by decide) (by decide) hk1 hFc ht hvm hB
    have hP : va_P D vwCl [(ou, .inl (cJ, 1, .inr (.inl ((fun _ => 0)))))] _ := hP
    have hD : va_D A [(ou, .inl (cJ, 1, .inr (.inl ((fun _ => 0)))))] := hD
    have hK : va_K D vwCl [(cJ, .long)] s := hK
    refine W.widen (k := 1) (n := 6) (Nat.le_refl _) (Nat.le_refl _) ?_
    refine W.eq (g2 := F0 m 7 ls [.int 0, .int 0, .ref ou]) rfl ?_
    refine lv_i2l (v := 0) hx hb dL_people_7 (by decide) ?_
    refine va_last hx hb hK hP hD hS 0 0 rfl rfl (by unfold vp_in; decide) dL_people_8 (fun H locs hP hD hS => ?_)
    have hP : va_P D vwCl [(ou, .inl (cJ, 1, .inr (.inl (vp_updL ((fun _ => 0)) (0 : Int32).toNatClampNeg 0))))] _ := hP
    have hD : va_D A [(ou, .inl (cJ, 1, .inr (.inl (vp_updL ((fun _ => 0)) (0 : Int32).toNatClampNeg 0))))] := hD
    refine lv_goto (tgt := 15) hx hb dL_people_9 (by decide) ?_
    refine lv_iconst (v := 0) hx hb dL_people_15 (by decide) ?_
    refine W.widen (k := 1) (n := 6) (Nat.le_of_ble_eq_true rfl) (Nat.le_of_ble_eq_true rfl) ?_
    have hP9 := hP.sub (ws' := [(ou, .inl (cJ, 1, .inr (.inl (vp_updL ((fun _ => 0)) (0 : Int32).toNatClampNeg 0))))]) [0] rfl
    have hD9 := hD.sub (ws' := [(ou, .inl (cJ, 1, .inr (.inl (vp_updL ((fun _ => 0)) (0 : Int32).toNatClampNeg 0))))]) [0] (by decide) rfl
    have hK9 := hK.sub (tys' := []) [] rfl
    exact W.iret (v := 0) hx hb hr (fun t ht hW => ⟨⟨0, ([(ou, .inl (cJ, 1, .inr (.inl (vp_updL ((fun _ => 0)) (0 : Int32).toNatClampNeg 0))))], []), rfl, (Or.inr (⟨g_2, rfl, rfl⟩)), by rw [ht]; exact hP9, va_K.moved hW.alike hK9, hD9⟩, hS.F ht⟩) hS.2.2 dL_people_16
set_option maxHeartbeats 4000000 in
set_option maxRecDepth 100000 in
theorem c_L_comeShare (l : Launch) (hst : l.stackTraces = false) (em kw kb : Nat) (D : va_G) (x : Nat) (od : Nat) (c1 : Nat) (ps1 : Nat) (lg : Nat) (cD : ClassId) (sz : Nat) : Met l yL_comeShare wsL_comeShare ({ frames := 7, cells := 1, slots := 6, locals := 103 }) (va_Pc [.ref x, .ref od] (tw_Pre em kw kb D sz [(x, .inr (7, [.ref c1, .ref ps1, .ref lg, .int 9, .int 99, .int 0, .int 0, .int 0, .int ((-1)), .int 0, .int 0, .long 0])), (ps1, .inr (3, [.int 0, .ref em, .int 0])), (od, .inl (cD, 1, .inr (.inr (.inr (.inl ((fun _ => 0)))))))] [(cD, .double)])) (va_Qi (fun (r : Int32) (u : tw_U) => r = 1 ∧ u = ([(od, .inl (cD, 1, .inr (.inr (.inr (.inl ((fun _ => 0)))))))], [])) (tw_B D (va_A [(x, .inr (7, [.ref c1, .ref ps1, .ref lg, .int 9, .int 99, .int 0, .int 0, .int 0, .int ((-1)), .int 0, .int 0, .long 0])), (ps1, .inr (3, [.int 0, .ref em, .int 0])), (od, .inl (cD, 1, .inr (.inr (.inr (.inl ((fun _ => 0)))))))] sz)) (va_A [(x, .inr (7, [.ref c1, .ref ps1, .ref lg, .int 9, .int 99, .int 0, .int 0, .int 0, .int ((-1)), .int 0, .int 0, .long 0])), (ps1, .inr (3, [.int 0, .ref em, .int 0])), (od, .inl (cD, 1, .inr (.inr (.inr (.inl ((fun _ => 0)))))))] sz)) 1 6 (va_A [(x, .inr (7, [.ref c1, .ref ps1, .ref lg, .int 9, .int 99, .int 0, .int 0, .int 0, .int ((-1)), .int 0, .int 0, .long 0])), (ps1, .inr (3, [.int 0, .ref em, .int 0])), (od, .inl (cD, 1, .inr (.inr (.inr (.inl ((fun _ => 0)))))))] sz) := by
  refine va_MetW (cc := cL_comeShare) (maxL := 3) (ret := (some .int)) (hh := [(0, 8, 11, 111)]) (by decide) rfl ?_
  intro p e s m args below meth c s₁ B hml hv
  obtain ⟨rfl, hsz, hP, hK, hD0, hF⟩ := hv
  have hx := B.exec
  have hb := B.bytes
  have hr := B.returns
  have hts := atoms_spec (ws := wsL_comeShare) B.pre
  have hown : s.vm.findClass RL = some m.cls := findClass_of_methodNamed B.named
  have hlocks := B.notSynchronized
  have htab := vx_table (x := yL_comeShare) B (hts _ List.mem_cons_self)
  subst hsz
  have hD := hD0.self (sz := s.heap.size)
  generalize hAe : va_A [(x, .inr (7, [.ref c1, .ref ps1, .ref lg, .int 9, .int 99, .int 0, .int 0, .int 0, .int ((-1)), .int 0, .int 0, .long 0])), (ps1, .inr (3, [.int 0, .ref em, .int 0])), (od, .inl (cD, 1, .inr (.inr (.inr (.inl ((fun _ => 0)))))))] s.heap.size = A at hD hF ⊢
  have hA : ∀ q : Nat, s.heap.size ≤ q → A q := fun q h => by rw [← hAe]; exact Or.inr h
  have hS : va_S A s.heap s.heap [] := va_S.rf
  have hP : va_P D vwCl [(x, .inr (7, [.ref c1, .ref ps1, .ref lg, .int 9, .int 99, .int 0, .int 0, .int 0, .int ((-1)), .int 0, .int 0, .long 0])), (ps1, .inr (3, [.int 0, .ref em, .int 0])), (od, .inl (cD, 1, .inr (.inr (.inr (.inl ((fun _ => 0)))))))] s.heap := hP
  have hl := lv_entry ([.ref x, .ref od]) (n := 3) (Nat.le_of_ble_eq_true rfl)
  rw [lg_entry_eq]
  generalize (lg_sl ([.ref x, .ref od]) ++ List.replicate (3 - (lg_sl ([.ref x, .ref od])).length) Slot.unset).toArray = ls at hl ⊢
  have hl : lv_has ls 3 [(0, .ref x), (1, .ref od)] := hl
  refine lv_aload_n hx hb dL_comeShare_0 rfl (lv_at hl 1 rfl) ?_
  refine lv_iconst (v := 0) hx hb dL_comeShare_1 (by decide) ?_
  refine lv_aload_n hx hb dL_comeShare_2 rfl (lv_at hl 0 rfl) ?_
  have hPc := hP.sub (ws' := [(x, .inr (7, [.ref c1, .ref ps1, .ref lg, .int 9, .int 99, .int 0, .int 0, .int 0, .int ((-1)), .int 0, .int 0, .long 0])), (ps1, .inr (3, [.int 0, .ref em, .int 0]))]) [0, 1] rfl
  have hDc := hD.sub (ws' := [(x, .inr (7, [.ref c1, .ref ps1, .ref lg, .int 9, .int 99, .int 0, .int 0, .int 0, .int ((-1)), .int 0, .int 0, .long 0])), (ps1, .inr (3, [.int 0, .ref em, .int 0]))]) [0, 1] (by decide) rfl
  have hKc := hK.sub (tys' := []) [] rfl
  have hFc := va_free (wc := [(x, .inr (7, [.ref c1, .ref ps1, .ref lg, .int 9, .int 99, .int 0, .int 0, .int 0, .int ((-1)), .int 0, .int 0, .long 0])), (ps1, .inr (3, [.int 0, .ref em, .int 0]))]) hD hS hA [0, 1] rfl
  refine vx_callf (vx_runV (As := []) (rest := [.int 0, .ref od]) ⟨hx, hb, hml, hown, hts⟩ (c_X3_comeShare l hst em kw kb D x c1 ps1 lg _) (cwV 0 hts gL_comeShare_X3_comeShare rfl rfl rfl (by decide +kernel) ⟨(Nat.le_of_ble_eq_true rfl), (Nat.le_of_ble_eq_true rfl)⟩) (tw_preV hF hS hFc hPc hKc hDc (va_recv hKc hPc (ci := 7) (q0 := 0) rfl rfl)) rfl rfl hl.1 rfl (lv_room (Nat.le_of_ble_eq_true rfl)) dL_comeShare_3 ⟨(Nat.le_of_ble_eq_true rfl), (Nat.le_of_ble_eq_true rfl)⟩) hS (fun q _ h => hFc q h) hFc (fun q _ h => hFc q h) (fun E ce q9 u t H locs ht hvm hw hB hz1 hk1 hS hce hcv hcl => ?_) (fun r u t H locs ht hvm hw hB hz1 hk1 hS => ?_)
  · obtain ⟨hE, hB⟩ := hB
    subst hw
    subst hE
    obtain ⟨hP, hD, hK⟩ := tw_join (wr := [(od, .inl (cD, 1, .inr (.inr (.inr (.inl ((fun _ => 0)))))))]) hP hD hK [0, 1] [2] rfl rfl (by decide) (by decide) hk1 hFc ht hvm hB
    have hP : va_P D vwCl [(od, .inl (cD, 1, .inr (.inr (.inr (.inl ((fun _ => 0)))))))] _ := hP
    have hD : va_D A [(od, .inl (cD, 1, .inr (.inr (.inr (.inl ((fun _ => 0)))))))] := hD
    have hK : va_K D vwCl [(cD, .double)] s := hK
    refine vx_catch (name := "java/lang/ArithmeticException") hown [] (ExceptionTableEntry.mk 0 8 11 111) [] (by rw [htab]; rfl) (List.forall_mem_nil _) (by decide) (by decide) (hts (.classLink RL 111 "java/lang/ArithmeticException") (by decide +kernel)) (tw_cs hF (q := ("java/lang/ArithmeticException", "java/lang/ArithmeticException")) (by decide)) hce hcv hcl ?_
    refine W.widen (k := 1) (n := 6) (Nat.le_refl _) (Nat.le_refl _) ?_
    refine W.eq (g2 := F0 m 11 ls [.ref q9]) rfl ?_
    refine lv_astore_n (lv' := [(2, .ref q9), (0, .ref x), (1, .ref od)]) hx hb dL_comeShare_11 rfl hl (by decide) rfl (fun ls hl => ?_)
    refine lv_iconst (v := 1) hx hb dL_comeShare_12 (by decide) ?_
    refine W.widen (k := 1) (n := 6) (Nat.le_of_ble_eq_true rfl) (Nat.le_of_ble_eq_true rfl) ?_
    have hP9 := hP.sub (ws' := [(od, .inl (cD, 1, .inr (.inr (.inr (.inl ((fun _ => 0)))))))]) [0] rfl
    have hD9 := hD.sub (ws' := [(od, .inl (cD, 1, .inr (.inr (.inr (.inl ((fun _ => 0)))))))]) [0] (by decide) rfl
    have hK9 := hK.sub (tys' := []) [] rfl
    exact W.iret (v := 1) hx hb hr (fun t ht hW => ⟨⟨1, ([(od, .inl (cD, 1, .inr (.inr (.inr (.inl ((fun _ => 0)))))))], []), rfl, ⟨rfl, rfl⟩, by rw [ht]; exact hP9, va_K.moved hW.alike hK9, hD9⟩, hS.F ht⟩) hS.2.2 dL_comeShare_13
  · exact hw.elim
set_option maxHeartbeats 4000000 in
set_option maxRecDepth 100000 in
theorem c_L_meanWait (l : Launch) (hst : l.stackTraces = false) (em kw kb : Nat) (D : va_G) (x : Nat) (od : Nat) (c1 : Nat) (ps1 : Nat) (lg : Nat) (cD : ClassId) (sz : Nat) : Met l yL_meanWait wsL_meanWait ({ frames := 7, cells := 1, slots := 6, locals := 106 }) (va_Pc [.ref x, .ref od] (tw_Pre em kw kb D sz [(x, .inr (7, [.ref c1, .ref ps1, .ref lg, .int 9, .int 99, .int 0, .int 0, .int 0, .int ((-1)), .int 0, .int 0, .long 0])), (ps1, .inr (3, [.int 0, .ref em, .int 0])), (od, .inl (cD, 1, .inr (.inr (.inr (.inl ((fun _ => 0)))))))] [(cD, .double)])) (va_Qi (fun (r : Int32) (u : tw_U) => r = 1 ∧ u = ([(od, .inl (cD, 1, .inr (.inr (.inr (.inl ((fun _ => 0)))))))], [])) (tw_B D (va_A [(x, .inr (7, [.ref c1, .ref ps1, .ref lg, .int 9, .int 99, .int 0, .int 0, .int 0, .int ((-1)), .int 0, .int 0, .long 0])), (ps1, .inr (3, [.int 0, .ref em, .int 0])), (od, .inl (cD, 1, .inr (.inr (.inr (.inl ((fun _ => 0)))))))] sz)) (va_A [(x, .inr (7, [.ref c1, .ref ps1, .ref lg, .int 9, .int 99, .int 0, .int 0, .int 0, .int ((-1)), .int 0, .int 0, .long 0])), (ps1, .inr (3, [.int 0, .ref em, .int 0])), (od, .inl (cD, 1, .inr (.inr (.inr (.inl ((fun _ => 0)))))))] sz)) 1 6 (va_A [(x, .inr (7, [.ref c1, .ref ps1, .ref lg, .int 9, .int 99, .int 0, .int 0, .int 0, .int ((-1)), .int 0, .int 0, .long 0])), (ps1, .inr (3, [.int 0, .ref em, .int 0])), (od, .inl (cD, 1, .inr (.inr (.inr (.inl ((fun _ => 0)))))))] sz) := by
  refine va_MetW (cc := cL_meanWait) (maxL := 3) (ret := (some .int)) (hh := [(0, 7, 10, 111)]) (by decide) rfl ?_
  intro p e s m args below meth c s₁ B hml hv
  obtain ⟨rfl, hsz, hP, hK, hD0, hF⟩ := hv
  have hx := B.exec
  have hb := B.bytes
  have hr := B.returns
  have hts := atoms_spec (ws := wsL_meanWait) B.pre
  have hown : s.vm.findClass RL = some m.cls := findClass_of_methodNamed B.named
  have hlocks := B.notSynchronized
  have htab := vx_table (x := yL_meanWait) B (hts _ List.mem_cons_self)
  subst hsz
  have hD := hD0.self (sz := s.heap.size)
  generalize hAe : va_A [(x, .inr (7, [.ref c1, .ref ps1, .ref lg, .int 9, .int 99, .int 0, .int 0, .int 0, .int ((-1)), .int 0, .int 0, .long 0])), (ps1, .inr (3, [.int 0, .ref em, .int 0])), (od, .inl (cD, 1, .inr (.inr (.inr (.inl ((fun _ => 0)))))))] s.heap.size = A at hD hF ⊢
  have hA : ∀ q : Nat, s.heap.size ≤ q → A q := fun q h => by rw [← hAe]; exact Or.inr h
  have hS : va_S A s.heap s.heap [] := va_S.rf
  have hP : va_P D vwCl [(x, .inr (7, [.ref c1, .ref ps1, .ref lg, .int 9, .int 99, .int 0, .int 0, .int 0, .int ((-1)), .int 0, .int 0, .long 0])), (ps1, .inr (3, [.int 0, .ref em, .int 0])), (od, .inl (cD, 1, .inr (.inr (.inr (.inl ((fun _ => 0)))))))] s.heap := hP
  have hl := lv_entry ([.ref x, .ref od]) (n := 3) (Nat.le_of_ble_eq_true rfl)
  rw [lg_entry_eq]
  generalize (lg_sl ([.ref x, .ref od]) ++ List.replicate (3 - (lg_sl ([.ref x, .ref od])).length) Slot.unset).toArray = ls at hl ⊢
  have hl : lv_has ls 3 [(0, .ref x), (1, .ref od)] := hl
  refine lv_aload_n hx hb dL_meanWait_0 rfl (lv_at hl 1 rfl) ?_
  refine lv_iconst (v := 0) hx hb dL_meanWait_1 (by decide) ?_
  refine lv_aload_n hx hb dL_meanWait_2 rfl (lv_at hl 0 rfl) ?_
  have hPc := hP.sub (ws' := [(x, .inr (7, [.ref c1, .ref ps1, .ref lg, .int 9, .int 99, .int 0, .int 0, .int 0, .int ((-1)), .int 0, .int 0, .long 0])), (ps1, .inr (3, [.int 0, .ref em, .int 0]))]) [0, 1] rfl
  have hDc := hD.sub (ws' := [(x, .inr (7, [.ref c1, .ref ps1, .ref lg, .int 9, .int 99, .int 0, .int 0, .int 0, .int ((-1)), .int 0, .int 0, .long 0])), (ps1, .inr (3, [.int 0, .ref em, .int 0]))]) [0, 1] (by decide) rfl
  have hKc := hK.sub (tys' := []) [] rfl
  have hFc := va_free (wc := [(x, .inr (7, [.ref c1, .ref ps1, .ref lg, .int 9, .int 99, .int 0, .int 0, .int 0, .int ((-1)), .int 0, .int 0, .long 0])), (ps1, .inr (3, [.int 0, .ref em, .int 0]))]) hD hS hA [0, 1] rfl
  refine vx_calld (vx_runV (As := []) (rest := [.int 0, .ref od]) ⟨hx, hb, hml, hown, hts⟩ (c_X3_meanWait l hst em kw kb D x c1 ps1 lg _) (cwV 0 hts gL_meanWait_X3_meanWait rfl rfl rfl (by decide +kernel) ⟨(Nat.le_of_ble_eq_true rfl), (Nat.le_of_ble_eq_true rfl)⟩) (tw_preV hF hS hFc hPc hKc hDc (va_recv hKc hPc (ci := 7) (q0 := 0) rfl rfl)) rfl rfl hl.1 rfl (lv_room (Nat.le_of_ble_eq_true rfl)) dL_meanWait_3 ⟨(Nat.le_of_ble_eq_true rfl), (Nat.le_of_ble_eq_true rfl)⟩) hS (fun q _ h => hFc q h) hFc (fun q _ h => hFc q h) (fun E ce q9 u t H locs ht hvm hw hB hz1 hk1 hS hce hcv hcl => ?_) (fun r u t H locs ht hvm hw hB hz1 hk1 hS => ?_)
  · obtain ⟨hE, hB⟩ := hB
    subst hw
    subst hE
    obtain ⟨hP, hD, hK⟩ := tw_join (wr := [(od, .inl (cD, 1, .inr (.inr (.inr (.inl ((fun _ => 0)))))))]) hP hD hK [0, 1] [2] rfl rfl (by decide) (by decide) hk1 hFc ht hvm hB
    have hP : va_P D vwCl [(od, .inl (cD, 1, .inr (.inr (.inr (.inl ((fun _ => 0)))))))] _ := hP
    have hD : va_D A [(od, .inl (cD, 1, .inr (.inr (.inr (.inl ((fun _ => 0)))))))] := hD
    have hK : va_K D vwCl [(cD, .double)] s := hK
    refine vx_catch (name := "java/lang/ArithmeticException") hown [] (ExceptionTableEntry.mk 0 7 10 111) [] (by rw [htab]; rfl) (List.forall_mem_nil _) (by decide) (by decide) (hts (.classLink RL 111 "java/lang/ArithmeticException") (by decide +kernel)) (tw_cs hF (q := ("java/lang/ArithmeticException", "java/lang/ArithmeticException")) (by decide)) hce hcv hcl ?_
    refine W.widen (k := 1) (n := 6) (Nat.le_refl _) (Nat.le_refl _) ?_
    refine W.eq (g2 := F0 m 10 ls [.ref q9]) rfl ?_
    refine lv_astore_n (lv' := [(2, .ref q9), (0, .ref x), (1, .ref od)]) hx hb dL_meanWait_10 rfl hl (by decide) rfl (fun ls hl => ?_)
    refine lv_iconst (v := 1) hx hb dL_meanWait_11 (by decide) ?_
    refine W.widen (k := 1) (n := 6) (Nat.le_of_ble_eq_true rfl) (Nat.le_of_ble_eq_true rfl) ?_
    have hP9 := hP.sub (ws' := [(od, .inl (cD, 1, .inr (.inr (.inr (.inl ((fun _ => 0)))))))]) [0] rfl
    have hD9 := hD.sub (ws' := [(od, .inl (cD, 1, .inr (.inr (.inr (.inl ((fun _ => 0)))))))]) [0] (by decide) rfl
    have hK9 := hK.sub (tys' := []) [] rfl
    exact W.iret (v := 1) hx hb hr (fun t ht hW => ⟨⟨1, ([(od, .inl (cD, 1, .inr (.inr (.inr (.inl ((fun _ => 0)))))))], []), rfl, ⟨rfl, rfl⟩, by rw [ht]; exact hP9, va_K.moved hW.alike hK9, hD9⟩, hS.F ht⟩) hS.2.2 dL_meanWait_12
  · exact hw.elim
