theorem dX3_setTop_0 : decode cX3_setTop 0 = .ok (.iload_n 1, 1) := by decide +kernel
theorem dX3_setTop_1 : decode cX3_setTop 1 = .ok (.iconst 4, 1) := by decide +kernel
theorem dX3_setTop_2 : decode cX3_setTop 2 = .ok (.if_icmp .lt 9, 3) := by decide +kernel
theorem dX3_setTop_11 : decode cX3_setTop 11 = .ok (.new 37, 3) := by decide +kernel
theorem dX3_setTop_14 : decode cX3_setTop 14 = .ok (.dup, 1) := by decide +kernel
theorem dX3_setTop_15 : decode cX3_setTop 15 = .ok (.ldc 39, 2) := by decide +kernel
theorem dX3_setTop_17 : decode cX3_setTop 17 = .ok (.invokespecial 41, 3) := by decide +kernel
theorem dX3_setTop_20 : decode cX3_setTop 20 = .ok (.athrow, 1) := by decide +kernel
theorem dX3_setTop_5 : decode cX3_setTop 5 = .ok (.iload_n 1, 1) := by decide +kernel
theorem dX3_setTop_6 : decode cX3_setTop 6 = .ok (.bipush 23, 2) := by decide +kernel
theorem dX3_setTop_8 : decode cX3_setTop 8 = .ok (.if_icmp .le 13, 3) := by decide +kernel
theorem dX3_setTop_21 : decode cX3_setTop 21 = .ok (.aload_n 0, 1) := by decide +kernel
theorem dX3_setTop_22 : decode cX3_setTop 22 = .ok (.getfield 10, 3) := by decide +kernel
set_option maxRecDepth 20000 in
theorem ggX3_setTop_Jx4a65c_isEmpty_aae02 : GoodIn wsX3_setTop wsJx4a65c_isEmpty_aae02 := goodIn_r _ [12, 13, 26, 27, 28] (by decide +kernel) (by decide +kernel)
set_option maxRecDepth 20000 in
theorem gX3_setTop_Jx4a65c_isEmpty_aae02 : GoodIn wsX3_setTop (wsV RX3 44 RJx4a65c yJx4a65c_isEmpty_aae02 wsJx4a65c_isEmpty_aae02) := goodIn_app (goodIn_of _ (by decide +kernel)) ggX3_setTop_Jx4a65c_isEmpty_aae02
theorem dX3_setTop_25 : decode cX3_setTop 25 = .ok (.invokevirtual 44, 3) := by decide +kernel
theorem dX3_setTop_28 : decode cX3_setTop 28 = .ok (.ifCond .eq 13, 3) := by decide +kernel
theorem dX3_setTop_31 : decode cX3_setTop 31 = .ok (.aload_n 0, 1) := by decide +kernel
theorem dX3_setTop_32 : decode cX3_setTop 32 = .ok (.getfield 16, 3) := by decide +kernel
theorem dX3_setTop_35 : decode cX3_setTop 35 = .ok (.invokevirtual 44, 3) := by decide +kernel
theorem dX3_setTop_38 : decode cX3_setTop 38 = .ok (.ifCond .ne 13, 3) := by decide +kernel
theorem dX3_setTop_51 : decode cX3_setTop 51 = .ok (.aload_n 0, 1) := by decide +kernel
theorem dX3_setTop_52 : decode cX3_setTop 52 = .ok (.getfield 26, 3) := by decide +kernel
theorem dX3_setTop_55 : decode cX3_setTop 55 = .ok (.istore_n 2, 1) := by decide +kernel
theorem dX3_setTop_56 : decode cX3_setTop 56 = .ok (.aload_n 0, 1) := by decide +kernel
theorem dX3_setTop_57 : decode cX3_setTop 57 = .ok (.iload_n 1, 1) := by decide +kernel
theorem dX3_setTop_58 : decode cX3_setTop 58 = .ok (.putfield 26, 3) := by decide +kernel
theorem dX3_setTop_61 : decode cX3_setTop 61 = .ok (.iload_n 2, 1) := by decide +kernel
theorem dX3_setTop_62 : decode cX3_setTop 62 = .ok (.ireturn, 1) := by decide +kernel
theorem dX3_car_0 : decode cX3_car 0 = .ok (.iload_n 1, 1) := by decide +kernel
theorem dX3_car_1 : decode cX3_car 1 = .ok (.ifCond .lt 16, 3) := by decide +kernel
theorem dX3_car_17 : decode cX3_car 17 = .ok (.new 37, 3) := by decide +kernel
theorem dX3_car_20 : decode cX3_car 20 = .ok (.dup, 1) := by decide +kernel
theorem dX3_car_21 : decode cX3_car 21 = .ok (.ldc 57, 2) := by decide +kernel
theorem dX3_car_23 : decode cX3_car 23 = .ok (.invokespecial 41, 3) := by decide +kernel
theorem dX3_car_26 : decode cX3_car 26 = .ok (.athrow, 1) := by decide +kernel
theorem dX3_car_4 : decode cX3_car 4 = .ok (.iload_n 1, 1) := by decide +kernel
theorem dX3_car_5 : decode cX3_car 5 = .ok (.iconst 3, 1) := by decide +kernel
theorem dX3_car_6 : decode cX3_car 6 = .ok (.if_icmp .ge 11, 3) := by decide +kernel
theorem dX3_car_9 : decode cX3_car 9 = .ok (.aload_n 0, 1) := by decide +kernel
theorem dX3_car_10 : decode cX3_car 10 = .ok (.iload_n 3, 1) := by decide +kernel
set_option maxRecDepth 20000 in
theorem ggX3_car_X3_isFloor : GoodIn wsX3_car wsX3_isFloor := goodIn_r _ [17, 11, 139, 140, 141, 142, 143, 144, 145, 146, 147, 148, 149, 150] (by decide +kernel) (by decide +kernel)
set_option maxRecDepth 20000 in
theorem gX3_car_X3_isFloor : GoodIn wsX3_car (wsV RX3 53 RX3 yX3_isFloor wsX3_isFloor) := goodIn_app (goodIn_of _ (by decide +kernel)) ggX3_car_X3_isFloor
theorem dX3_car_11 : decode cX3_car 11 = .ok (.invokevirtual 53, 3) := by decide +kernel
theorem dX3_car_14 : decode cX3_car 14 = .ok (.ifCond .ne 13, 3) := by decide +kernel
theorem dX3_car_27 : decode cX3_car 27 = .ok (.iload_n 2, 1) := by decide +kernel
theorem dX3_car_28 : decode cX3_car 28 = .ok (.sipush 200, 3) := by decide +kernel
theorem dX3_car_31 : decode cX3_car 31 = .ok (.if_icmp .lt 16, 3) := by decide +kernel
theorem dX3_car_47 : decode cX3_car 47 = .ok (.new 37, 3) := by decide +kernel
theorem dX3_car_50 : decode cX3_car 50 = .ok (.dup, 1) := by decide +kernel
theorem dX3_car_51 : decode cX3_car 51 = .ok (.ldc 59, 2) := by decide +kernel
theorem dX3_car_53 : decode cX3_car 53 = .ok (.invokespecial 41, 3) := by decide +kernel
theorem dX3_car_56 : decode cX3_car 56 = .ok (.athrow, 1) := by decide +kernel
theorem dX3_car_34 : decode cX3_car 34 = .ok (.iload_n 2, 1) := by decide +kernel
theorem dX3_car_35 : decode cX3_car 35 = .ok (.sipush 2000, 3) := by decide +kernel
theorem dX3_car_38 : decode cX3_car 38 = .ok (.if_icmp .gt 9, 3) := by decide +kernel
theorem dX3_car_41 : decode cX3_car 41 = .ok (.iload_n 2, 1) := by decide +kernel
theorem dX3_car_42 : decode cX3_car 42 = .ok (.iconst 2, 1) := by decide +kernel
theorem dX3_car_43 : decode cX3_car 43 = .ok (.irem, 1) := by decide +kernel
theorem dX3_car_44 : decode cX3_car 44 = .ok (.ifCond .eq 13, 3) := by decide +kernel
theorem dX3_car_57 : decode cX3_car 57 = .ok (.aload_n 0, 1) := by decide +kernel
theorem dX3_car_58 : decode cX3_car 58 = .ok (.iload_n 1, 1) := by decide +kernel
set_option maxRecDepth 20000 in
theorem ggX3_car_X3_firstIn : GoodIn wsX3_car wsX3_firstIn := goodIn_r _ [21, 7, 22, 23, 24, 25, 26, 27, 28, 29, 30, 31, 32, 33, 34, 35, 36, 37, 38, 39, 40, 41, 42, 43, 44, 45, 46, 139, 140, 141, 142, 143, 144, 145, 146, 147, 148, 149, 150, 151, 152, 153, 154, 155, 156, 157, 158, 159, 160, 161, 162, 163, 164, 165, 166, 167, 168, 169, 170, 171, 172] (by decide +kernel) (by decide +kernel)
set_option maxRecDepth 20000 in
theorem gX3_car_X3_firstIn : GoodIn wsX3_car (wsV RX3 61 RX3 yX3_firstIn wsX3_firstIn) := goodIn_app (goodIn_of _ (by decide +kernel)) ggX3_car_X3_firstIn
theorem dX3_car_59 : decode cX3_car 59 = .ok (.invokevirtual 61, 3) := by decide +kernel
theorem dX3_car_62 : decode cX3_car 62 = .ok (.astore 4, 2) := by decide +kernel
theorem dX3_car_64 : decode cX3_car 64 = .ok (.aload 4, 2) := by decide +kernel
theorem dX3_car_66 : decode cX3_car 66 = .ok (.ifnull 21, 3) := by decide +kernel
theorem dX3_car_87 : decode cX3_car 87 = .ok (.aload_n 0, 1) := by decide +kernel
theorem dX3_car_88 : decode cX3_car 88 = .ok (.getfield 10, 3) := by decide +kernel
set_option maxRecDepth 20000 in
theorem ggX3_car_Jx4a65c_size_8abf5 : GoodIn wsX3_car wsJx4a65c_size_8abf5 := goodIn_r _ [28, 29, 170, 171, 172] (by decide +kernel) (by decide +kernel)
set_option maxRecDepth 20000 in
theorem gX3_car_Jx4a65c_size_8abf5 : GoodIn wsX3_car (wsV RX3 75 RJx4a65c yJx4a65c_size_8abf5 wsJx4a65c_size_8abf5) := goodIn_app (goodIn_of _ (by decide +kernel)) ggX3_car_Jx4a65c_size_8abf5
theorem dX3_car_91 : decode cX3_car 91 = .ok (.invokevirtual 75, 3) := by decide +kernel
theorem dX3_car_94 : decode cX3_car 94 = .ok (.iconst 5, 1) := by decide +kernel
theorem dX3_car_95 : decode cX3_car 95 = .ok (.if_icmp .lt 13, 3) := by decide +kernel
theorem dX3_car_108 : decode cX3_car 108 = .ok (.new 66, 3) := by decide +kernel
theorem dX3_car_111 : decode cX3_car 111 = .ok (.dup, 1) := by decide +kernel
theorem dX3_car_112 : decode cX3_car 112 = .ok (.aload_n 0, 1) := by decide +kernel
theorem dX3_car_113 : decode cX3_car 113 = .ok (.getfield 10, 3) := by decide +kernel
theorem dX3_car_116 : decode cX3_car 116 = .ok (.invokevirtual 75, 3) := by decide +kernel
theorem dX3_car_119 : decode cX3_car 119 = .ok (.iload_n 1, 1) := by decide +kernel
theorem dX3_car_120 : decode cX3_car 120 = .ok (.iload_n 2, 1) := by decide +kernel
theorem dX3_car_121 : decode cX3_car 121 = .ok (.iload_n 3, 1) := by decide +kernel
theorem dX3_car_122 : decode cX3_car 122 = .ok (.aload_n 0, 1) := by decide +kernel
theorem dX3_car_123 : decode cX3_car 123 = .ok (.getfield 26, 3) := by decide +kernel
set_option maxRecDepth 20000 in
theorem ggX3_car_X0_init : GoodIn wsX3_car wsX0_init := goodIn_r _ [63, 64, 65, 66, 67, 68, 69, 70, 71, 72, 73, 74, 75, 76, 10, 77, 78, 16, 79, 151, 152, 153, 154, 155, 156, 157, 158, 159, 160, 161, 162, 163, 164, 165, 166, 167, 168, 169] (by decide +kernel) (by decide +kernel)
set_option maxRecDepth 20000 in
theorem gX3_car_X0_init : GoodIn wsX3_car (wsX0_init) := ggX3_car_X0_init
theorem dX3_car_126 : decode cX3_car 126 = .ok (.invokespecial 81, 3) := by decide +kernel
theorem dX3_car_129 : decode cX3_car 129 = .ok (.astore 5, 2) := by decide +kernel
theorem dX3_car_131 : decode cX3_car 131 = .ok (.aload 4, 2) := by decide +kernel
theorem dX3_car_133 : decode cX3_car 133 = .ok (.ifnull 10, 3) := by decide +kernel
theorem dX3_car_143 : decode cX3_car 143 = .ok (.aload_n 0, 1) := by decide +kernel
theorem dX3_car_144 : decode cX3_car 144 = .ok (.getfield 10, 3) := by decide +kernel
theorem dX3_car_147 : decode cX3_car 147 = .ok (.aload 5, 2) := by decide +kernel
set_option maxRecDepth 20000 in
theorem ggX3_car_Jx4a65c_add_9ea2d : GoodIn wsX3_car wsJx4a65c_add_9ea2d := goodIn_r _ [89, 90, 91, 46, 29, 92, 93, 94, 27, 95, 96, 97, 98, 99, 100, 101, 102, 103, 104, 105, 106, 107, 108, 109, 110, 111, 112, 113, 114, 115, 116, 117, 118, 119, 120, 121, 122, 123, 124, 125, 126, 127, 128, 129, 130, 131, 132, 133, 134, 135, 136, 137, 138, 170, 171, 172] (by decide +kernel) (by decide +kernel)
set_option maxRecDepth 20000 in
theorem gX3_car_Jx4a65c_add_9ea2d : GoodIn wsX3_car (wsV RX3 88 RJx4a65c yJx4a65c_add_9ea2d wsJx4a65c_add_9ea2d) := goodIn_app (goodIn_of _ (by decide +kernel)) ggX3_car_Jx4a65c_add_9ea2d
theorem dX3_car_149 : decode cX3_car 149 = .ok (.invokevirtual 88, 3) := by decide +kernel
theorem dX3_car_152 : decode cX3_car 152 = .ok (.pop, 1) := by decide +kernel
theorem dX3_car_153 : decode cX3_car 153 = .ok (.aload 5, 2) := by decide +kernel
theorem dX3_car_155 : decode cX3_car 155 = .ok (.getfield 92, 3) := by decide +kernel
theorem dX3_car_158 : decode cX3_car 158 = .ok (.ireturn, 1) := by decide +kernel
theorem dX3_setDispatcher_0 : decode cX3_setDispatcher 0 = .ok (.iload_n 1, 1) := by decide +kernel
theorem dX3_setDispatcher_1 : decode cX3_setDispatcher 1 = .ok (.bipush 99, 2) := by decide +kernel
theorem dX3_setDispatcher_3 : decode cX3_setDispatcher 3 = .ok (.if_icmp .eq 31, 3) := by decide +kernel
theorem dX3_setDispatcher_34 : decode cX3_setDispatcher 34 = .ok (.aload_n 0, 1) := by decide +kernel
theorem dX3_setDispatcher_35 : decode cX3_setDispatcher 35 = .ok (.getfield 30, 3) := by decide +kernel
theorem dX3_setDispatcher_38 : decode cX3_setDispatcher 38 = .ok (.istore_n 2, 1) := by decide +kernel
theorem dX3_setDispatcher_39 : decode cX3_setDispatcher 39 = .ok (.aload_n 0, 1) := by decide +kernel
theorem dX3_setDispatcher_40 : decode cX3_setDispatcher 40 = .ok (.iload_n 1, 1) := by decide +kernel
theorem dX3_setDispatcher_41 : decode cX3_setDispatcher 41 = .ok (.putfield 30, 3) := by decide +kernel
theorem dX3_setDispatcher_44 : decode cX3_setDispatcher 44 = .ok (.iload_n 2, 1) := by decide +kernel
theorem dX3_setDispatcher_45 : decode cX3_setDispatcher 45 = .ok (.ireturn, 1) := by decide +kernel
theorem dX3_setDispatcher_6 : decode cX3_setDispatcher 6 = .ok (.iload_n 1, 1) := by decide +kernel
theorem dX3_setDispatcher_7 : decode cX3_setDispatcher 7 = .ok (.bipush 122, 2) := by decide +kernel
theorem dX3_setDispatcher_9 : decode cX3_setDispatcher 9 = .ok (.if_icmp .eq 25, 3) := by decide +kernel
theorem dX3_setDispatcher_12 : decode cX3_setDispatcher 12 = .ok (.iload_n 1, 1) := by decide +kernel
theorem dX3_setDispatcher_13 : decode cX3_setDispatcher 13 = .ok (.bipush 101, 2) := by decide +kernel
theorem dX3_setDispatcher_15 : decode cX3_setDispatcher 15 = .ok (.if_icmp .eq 19, 3) := by decide +kernel
theorem dX3_setDispatcher_18 : decode cX3_setDispatcher 18 = .ok (.iload_n 1, 1) := by decide +kernel
theorem dX3_setDispatcher_19 : decode cX3_setDispatcher 19 = .ok (.bipush 97, 2) := by decide +kernel
theorem dX3_setDispatcher_21 : decode cX3_setDispatcher 21 = .ok (.if_icmp .eq 13, 3) := by decide +kernel
theorem dX3_setDispatcher_24 : decode cX3_setDispatcher 24 = .ok (.new 37, 3) := by decide +kernel
theorem dX3_setDispatcher_27 : decode cX3_setDispatcher 27 = .ok (.dup, 1) := by decide +kernel
theorem dX3_setDispatcher_28 : decode cX3_setDispatcher 28 = .ok (.ldc 95, 2) := by decide +kernel
theorem dX3_setDispatcher_30 : decode cX3_setDispatcher 30 = .ok (.invokespecial 41, 3) := by decide +kernel
theorem dX3_setDispatcher_33 : decode cX3_setDispatcher 33 = .ok (.athrow, 1) := by decide +kernel
theorem dX3_come_0 : decode cX3_come 0 = .ok (.aload_n 0, 1) := by decide +kernel
theorem dX3_come_1 : decode cX3_come 1 = .ok (.iload_n 1, 1) := by decide +kernel
set_option maxRecDepth 20000 in
theorem ggX3_come_X3_isFloor : GoodIn wsX3_come wsX3_isFloor := goodIn_r _ [14, 15, 101, 102, 103, 104, 105, 106, 107, 108, 109, 110, 111, 112] (by decide +kernel) (by decide +kernel)
set_option maxRecDepth 20000 in
theorem gX3_come_X3_isFloor : GoodIn wsX3_come (wsV RX3 53 RX3 yX3_isFloor wsX3_isFloor) := goodIn_app (goodIn_of _ (by decide +kernel)) ggX3_come_X3_isFloor
theorem dX3_come_2 : decode cX3_come 2 = .ok (.invokevirtual 53, 3) := by decide +kernel
theorem dX3_come_5 : decode cX3_come 5 = .ok (.ifCond .eq 16, 3) := by decide +kernel
theorem dX3_come_21 : decode cX3_come 21 = .ok (.new 37, 3) := by decide +kernel
theorem dX3_come_24 : decode cX3_come 24 = .ok (.dup, 1) := by decide +kernel
theorem dX3_come_25 : decode cX3_come 25 = .ok (.ldc 97, 2) := by decide +kernel
theorem dX3_come_27 : decode cX3_come 27 = .ok (.invokespecial 41, 3) := by decide +kernel
theorem dX3_come_30 : decode cX3_come 30 = .ok (.athrow, 1) := by decide +kernel
theorem dX3_come_8 : decode cX3_come 8 = .ok (.aload_n 0, 1) := by decide +kernel
theorem dX3_come_9 : decode cX3_come 9 = .ok (.iload_n 2, 1) := by decide +kernel
theorem dX3_come_10 : decode cX3_come 10 = .ok (.invokevirtual 53, 3) := by decide +kernel
theorem dX3_come_13 : decode cX3_come 13 = .ok (.ifCond .eq 8, 3) := by decide +kernel
theorem dX3_come_16 : decode cX3_come 16 = .ok (.iload_n 1, 1) := by decide +kernel
theorem dX3_come_17 : decode cX3_come 17 = .ok (.iload_n 2, 1) := by decide +kernel
theorem dX3_come_18 : decode cX3_come 18 = .ok (.if_icmp .ne 13, 3) := by decide +kernel
theorem dX3_come_31 : decode cX3_come 31 = .ok (.iload_n 3, 1) := by decide +kernel
theorem dX3_come_32 : decode cX3_come 32 = .ok (.bipush 10, 2) := by decide +kernel
theorem dX3_come_34 : decode cX3_come 34 = .ok (.if_icmp .lt 29, 3) := by decide +kernel
theorem dX3_come_63 : decode cX3_come 63 = .ok (.new 37, 3) := by decide +kernel
theorem dX3_come_66 : decode cX3_come 66 = .ok (.dup, 1) := by decide +kernel
theorem dX3_come_67 : decode cX3_come 67 = .ok (.ldc 99, 2) := by decide +kernel
theorem dX3_come_69 : decode cX3_come 69 = .ok (.invokespecial 41, 3) := by decide +kernel
theorem dX3_come_72 : decode cX3_come 72 = .ok (.athrow, 1) := by decide +kernel
theorem dX3_come_37 : decode cX3_come 37 = .ok (.iload_n 3, 1) := by decide +kernel
theorem dX3_come_38 : decode cX3_come 38 = .ok (.sipush 200, 3) := by decide +kernel
theorem dX3_come_41 : decode cX3_come 41 = .ok (.if_icmp .gt 22, 3) := by decide +kernel
theorem dX3_come_44 : decode cX3_come 44 = .ok (.iload 4, 2) := by decide +kernel
theorem dX3_come_46 : decode cX3_come 46 = .ok (.iconst 1, 1) := by decide +kernel
theorem dX3_come_47 : decode cX3_come 47 = .ok (.if_icmp .lt 16, 3) := by decide +kernel
theorem dX3_come_50 : decode cX3_come 50 = .ok (.iload 4, 2) := by decide +kernel
theorem dX3_come_52 : decode cX3_come 52 = .ok (.sipush 999, 3) := by decide +kernel
theorem dX3_come_55 : decode cX3_come 55 = .ok (.if_icmp .gt 8, 3) := by decide +kernel
theorem dX3_come_58 : decode cX3_come 58 = .ok (.iload 5, 2) := by decide +kernel
theorem dX3_come_60 : decode cX3_come 60 = .ok (.ifCond .ge 13, 3) := by decide +kernel
theorem dX3_come_73 : decode cX3_come 73 = .ok (.aload_n 0, 1) := by decide +kernel
theorem dX3_come_74 : decode cX3_come 74 = .ok (.getfield 16, 3) := by decide +kernel
set_option maxRecDepth 20000 in
theorem ggX3_come_Jx4a65c_size_8abf5 : GoodIn wsX3_come wsJx4a65c_size_8abf5 := goodIn_r _ [20, 21, 120, 121, 122] (by decide +kernel) (by decide +kernel)
set_option maxRecDepth 20000 in
theorem gX3_come_Jx4a65c_size_8abf5 : GoodIn wsX3_come (wsV RX3 75 RJx4a65c yJx4a65c_size_8abf5 wsJx4a65c_size_8abf5) := goodIn_app (goodIn_of _ (by decide +kernel)) ggX3_come_Jx4a65c_size_8abf5
theorem dX3_come_77 : decode cX3_come 77 = .ok (.invokevirtual 75, 3) := by decide +kernel
theorem dX3_come_80 : decode cX3_come 80 = .ok (.bipush 60, 2) := by decide +kernel
theorem dX3_come_82 : decode cX3_come 82 = .ok (.if_icmp .lt 13, 3) := by decide +kernel
theorem dX3_come_95 : decode cX3_come 95 = .ok (.new 103, 3) := by decide +kernel
theorem dX3_come_98 : decode cX3_come 98 = .ok (.dup, 1) := by decide +kernel
theorem dX3_come_99 : decode cX3_come 99 = .ok (.iload_n 1, 1) := by decide +kernel
theorem dX3_come_100 : decode cX3_come 100 = .ok (.iload_n 2, 1) := by decide +kernel
theorem dX3_come_101 : decode cX3_come 101 = .ok (.iload_n 3, 1) := by decide +kernel
theorem dX3_come_102 : decode cX3_come 102 = .ok (.iload 4, 2) := by decide +kernel
set_option maxRecDepth 20000 in
theorem ggX3_come_X2_init : GoodIn wsX3_come wsX2_init := goodIn_r _ [24, 25, 26, 27, 28, 29, 30, 31, 32, 113, 114, 115, 116, 117, 118, 119] (by decide +kernel) (by decide +kernel)
set_option maxRecDepth 20000 in
theorem gX3_come_X2_init : GoodIn wsX3_come (wsX2_init) := ggX3_come_X2_init
theorem dX3_come_104 : decode cX3_come 104 = .ok (.invokespecial 105, 3) := by decide +kernel
theorem dX3_come_107 : decode cX3_come 107 = .ok (.astore 6, 2) := by decide +kernel
theorem dX3_come_109 : decode cX3_come 109 = .ok (.aload_n 0, 1) := by decide +kernel
theorem dX3_come_110 : decode cX3_come 110 = .ok (.getfield 16, 3) := by decide +kernel
theorem dX3_come_113 : decode cX3_come 113 = .ok (.aload 6, 2) := by decide +kernel
set_option maxRecDepth 20000 in
theorem ggX3_come_Jx4a65c_add_9ea2d : GoodIn wsX3_come wsJx4a65c_add_9ea2d := goodIn_r _ [36, 37, 38, 39, 21, 40, 41, 42, 19, 43, 44, 45, 46, 47, 48, 49, 50, 51, 52, 53, 54, 55, 56, 57, 58, 59, 60, 61, 62, 63, 64, 65, 66, 67, 68, 69, 70, 71, 72, 73, 74, 75, 76, 77, 78, 79, 80, 81, 82, 83, 84, 85, 86, 120, 121, 122] (by decide +kernel) (by decide +kernel)
set_option maxRecDepth 20000 in
theorem gX3_come_Jx4a65c_add_9ea2d : GoodIn wsX3_come (wsV RX3 88 RJx4a65c yJx4a65c_add_9ea2d wsJx4a65c_add_9ea2d) := goodIn_app (goodIn_of _ (by decide +kernel)) ggX3_come_Jx4a65c_add_9ea2d
theorem dX3_come_115 : decode cX3_come 115 = .ok (.invokevirtual 88, 3) := by decide +kernel
theorem dX3_come_118 : decode cX3_come 118 = .ok (.pop, 1) := by decide +kernel
theorem dX3_come_119 : decode cX3_come 119 = .ok (.iload 5, 2) := by decide +kernel
theorem dX3_come_121 : decode cX3_come 121 = .ok (.iload_n 2, 1) := by decide +kernel
set_option maxRecDepth 20000 in
theorem ggX3_come_X3_has : GoodIn wsX3_come wsX3_has := goodIn_r _ [89] (by decide +kernel) (by decide +kernel)
set_option maxRecDepth 20000 in
theorem gX3_come_X3_has : GoodIn wsX3_come (va_wsS RX3 108 yX3_has wsX3_has) := goodIn_app (goodIn_of _ (by decide +kernel)) ggX3_come_X3_has
theorem dX3_come_122 : decode cX3_come 122 = .ok (.invokestatic 108, 3) := by decide +kernel
theorem dX3_come_125 : decode cX3_come 125 = .ok (.ifCond .eq 13, 3) := by decide +kernel
theorem dX3_come_138 : decode cX3_come 138 = .ok (.aload_n 0, 1) := by decide +kernel
theorem dX3_come_139 : decode cX3_come 139 = .ok (.aload 6, 2) := by decide +kernel
set_option maxRecDepth 20000 in
theorem ggX3_come_X3_noteWaiting : GoodIn wsX3_come wsX3_noteWaiting := goodIn_r _ [93, 94, 95, 96, 97, 98, 99, 13, 100, 113, 114, 115, 116, 117, 118, 119, 101, 102, 103, 104, 105, 106, 107, 108, 109, 110, 111, 112] (by decide +kernel) (by decide +kernel)
set_option maxRecDepth 20000 in
theorem gX3_come_X3_noteWaiting : GoodIn wsX3_come (wsV RX3 115 RX3 yX3_noteWaiting wsX3_noteWaiting) := goodIn_app (goodIn_of _ (by decide +kernel)) ggX3_come_X3_noteWaiting
theorem dX3_come_141 : decode cX3_come 141 = .ok (.invokevirtual 115, 3) := by decide +kernel
theorem dX3_come_144 : decode cX3_come 144 = .ok (.aload_n 0, 1) := by decide +kernel
theorem dX3_come_145 : decode cX3_come 145 = .ok (.getfield 16, 3) := by decide +kernel
theorem dX3_come_148 : decode cX3_come 148 = .ok (.invokevirtual 75, 3) := by decide +kernel
theorem dX3_come_151 : decode cX3_come 151 = .ok (.iconst 1, 1) := by decide +kernel
theorem dX3_come_152 : decode cX3_come 152 = .ok (.isub, 1) := by decide +kernel
theorem dX3_come_153 : decode cX3_come 153 = .ok (.ireturn, 1) := by decide +kernel
theorem dX3_come_128 : decode cX3_come 128 = .ok (.aload 6, 2) := by decide +kernel
theorem dX3_come_130 : decode cX3_come 130 = .ok (.bipush 114, 2) := by decide +kernel
theorem dX3_come_132 : decode cX3_come 132 = .ok (.putfield 112, 3) := by decide +kernel
theorem dX3_come_135 : decode cX3_come 135 = .ok (.goto 9, 3) := by decide +kernel
theorem dX3_park_0 : decode cX3_park 0 = .ok (.aload_n 0, 1) := by decide +kernel
theorem dX3_park_1 : decode cX3_park 1 = .ok (.iload_n 1, 1) := by decide +kernel
set_option maxRecDepth 20000 in
theorem ggX3_park_X3_carOf : GoodIn wsX3_park wsX3_carOf := goodIn_ca (goodIn_r _ [6, 7, 8, 9, 10, 11, 12, 13, 14, 15, 16, 17, 18, 19, 20, 21, 22, 23, 24, 25, 26, 27, 28, 29, 30, 31, 32, 33, 64, 65, 66, 67, 68, 69, 70, 71, 72, 73, 74, 75, 76, 77, 78] (by decide +kernel) (by decide +kernel)) (goodIn_sub (fun _ h => List.mem_cons_of_mem _ (List.mem_append_left _ (List.mem_append_right _ h))) (by decide +kernel))
set_option maxRecDepth 20000 in
theorem gX3_park_X3_carOf : GoodIn wsX3_park (wsV RX3 119 RX3 yX3_carOf wsX3_carOf) := goodIn_app (goodIn_of _ (by decide +kernel)) ggX3_park_X3_carOf
theorem dX3_park_2 : decode cX3_park 2 = .ok (.invokevirtual 119, 3) := by decide +kernel
theorem dX3_serves_0 : decode cX3_serves 0 = .ok (.aload_n 0, 1) := by decide +kernel
theorem dX3_serves_1 : decode cX3_serves 1 = .ok (.iload_n 1, 1) := by decide +kernel
set_option maxRecDepth 20000 in
theorem ggX3_serves_X3_carOf : GoodIn wsX3_serves wsX3_carOf := goodIn_ca (goodIn_r _ [6, 7, 8, 9, 10, 11, 12, 13, 14, 15, 16, 17, 18, 19, 20, 21, 22, 23, 24, 25, 26, 27, 28, 29, 30, 31, 32, 33, 67, 68, 69, 70, 71, 72, 73, 74, 75, 76, 77, 78, 79, 80, 81] (by decide +kernel) (by decide +kernel)) (goodIn_sub (fun _ h => List.mem_cons_of_mem _ (List.mem_append_left _ (List.mem_append_right _ h))) (by decide +kernel))
set_option maxRecDepth 20000 in
theorem gX3_serves_X3_carOf : GoodIn wsX3_serves (wsV RX3 119 RX3 yX3_carOf wsX3_carOf) := goodIn_app (goodIn_of _ (by decide +kernel)) ggX3_serves_X3_carOf
theorem dX3_serves_2 : decode cX3_serves 2 = .ok (.invokevirtual 119, 3) := by decide +kernel
theorem dX3_floorOf_0 : decode cX3_floorOf 0 = .ok (.aload_n 0, 1) := by decide +kernel
theorem dX3_floorOf_1 : decode cX3_floorOf 1 = .ok (.iload_n 1, 1) := by decide +kernel
set_option maxRecDepth 20000 in
theorem ggX3_floorOf_X3_carOf : GoodIn wsX3_floorOf wsX3_carOf := goodIn_ca (goodIn_r _ [6, 7, 8, 9, 10, 11, 12, 13, 14, 15, 16, 17, 18, 19, 20, 21, 22, 23, 24, 25, 26, 27, 28, 29, 30, 31, 32, 33, 53, 54, 55, 56, 57, 58, 59, 60, 61, 62, 63, 64, 65, 66, 67] (by decide +kernel) (by decide +kernel)) (goodIn_sub (fun _ h => List.mem_cons_of_mem _ (List.mem_append_right _ h)) (by decide +kernel))
set_option maxRecDepth 20000 in
theorem gX3_floorOf_X3_carOf : GoodIn wsX3_floorOf (wsV RX3 119 RX3 yX3_carOf wsX3_carOf) := goodIn_app (goodIn_of _ (by decide +kernel)) ggX3_floorOf_X3_carOf
theorem dX3_floorOf_2 : decode cX3_floorOf 2 = .ok (.invokevirtual 119, 3) := by decide +kernel
theorem dX3_floorByLog_0 : decode cX3_floorByLog 0 = .ok (.aload_n 0, 1) := by decide +kernel
theorem dX3_floorByLog_1 : decode cX3_floorByLog 1 = .ok (.aload_n 0, 1) := by decide +kernel
theorem dX3_floorByLog_2 : decode cX3_floorByLog 2 = .ok (.iload_n 1, 1) := by decide +kernel
set_option maxRecDepth 20000 in
theorem ggX3_floorByLog_X3_carOf : GoodIn wsX3_floorByLog wsX3_carOf := goodIn_ca (goodIn_r _ [5, 6, 7, 8, 9, 10, 11, 12, 13, 14, 15, 16, 17, 18, 19, 20, 21, 22, 23, 24, 25, 26, 27, 28, 29, 30, 31, 32, 50, 51, 52, 53, 54, 55, 56, 57, 58, 59, 60, 61, 62, 63, 64] (by decide +kernel) (by decide +kernel)) (goodIn_sub (fun _ h => List.mem_cons_of_mem _ (List.mem_append_left _ (List.mem_append_right _ h))) (by decide +kernel))
set_option maxRecDepth 20000 in
theorem gX3_floorByLog_X3_carOf : GoodIn wsX3_floorByLog (wsV RX3 119 RX3 yX3_carOf wsX3_carOf) := goodIn_app (goodIn_of _ (by decide +kernel)) ggX3_floorByLog_X3_carOf
theorem dX3_floorByLog_3 : decode cX3_floorByLog 3 = .ok (.invokevirtual 119, 3) := by decide +kernel
theorem dX3_directionOf_0 : decode cX3_directionOf 0 = .ok (.aload_n 0, 1) := by decide +kernel
theorem dX3_directionOf_1 : decode cX3_directionOf 1 = .ok (.iload_n 1, 1) := by decide +kernel
set_option maxRecDepth 20000 in
theorem ggX3_directionOf_X3_carOf : GoodIn wsX3_directionOf wsX3_carOf := goodIn_ca (goodIn_r _ [6, 7, 8, 9, 10, 11, 12, 13, 14, 15, 16, 17, 18, 19, 20, 21, 22, 23, 24, 25, 26, 27, 28, 29, 30, 31, 32, 33, 53, 54, 55, 56, 57, 58, 59, 60, 61, 62, 63, 64, 65, 66, 67] (by decide +kernel) (by decide +kernel)) (goodIn_sub (fun _ h => List.mem_cons_of_mem _ (List.mem_append_right _ h)) (by decide +kernel))
set_option maxRecDepth 20000 in
theorem gX3_directionOf_X3_carOf : GoodIn wsX3_directionOf (wsV RX3 119 RX3 yX3_carOf wsX3_carOf) := goodIn_app (goodIn_of _ (by decide +kernel)) ggX3_directionOf_X3_carOf
theorem dX3_directionOf_2 : decode cX3_directionOf 2 = .ok (.invokevirtual 119, 3) := by decide +kernel
theorem dX3_isOpen_0 : decode cX3_isOpen 0 = .ok (.aload_n 0, 1) := by decide +kernel
theorem dX3_isOpen_1 : decode cX3_isOpen 1 = .ok (.iload_n 1, 1) := by decide +kernel
set_option maxRecDepth 20000 in
theorem ggX3_isOpen_X3_carOf : GoodIn wsX3_isOpen wsX3_carOf := goodIn_ca (goodIn_r _ [5, 6, 7, 8, 9, 10, 11, 12, 13, 14, 15, 16, 17, 18, 19, 20, 21, 22, 23, 24, 25, 26, 27, 28, 29, 30, 31, 32, 39, 40, 41, 42, 43, 44, 45, 46, 47, 48, 49, 50, 51, 52, 53] (by decide +kernel) (by decide +kernel)) (goodIn_sub (fun _ h => List.mem_cons_of_mem _ (List.mem_append_right _ h)) (by decide +kernel))
set_option maxRecDepth 20000 in
theorem gX3_isOpen_X3_carOf : GoodIn wsX3_isOpen (wsV RX3 119 RX3 yX3_carOf wsX3_carOf) := goodIn_app (goodIn_of _ (by decide +kernel)) ggX3_isOpen_X3_carOf
theorem dX3_isOpen_2 : decode cX3_isOpen 2 = .ok (.invokevirtual 119, 3) := by decide +kernel
theorem dX3_load_0 : decode cX3_load 0 = .ok (.aload_n 0, 1) := by decide +kernel
theorem dX3_load_1 : decode cX3_load 1 = .ok (.iload_n 1, 1) := by decide +kernel
set_option maxRecDepth 20000 in
theorem ggX3_load_X3_carOf : GoodIn wsX3_load wsX3_carOf := goodIn_ca (goodIn_r _ [6, 7, 8, 9, 10, 11, 12, 13, 14, 15, 16, 17, 18, 19, 20, 21, 22, 23, 24, 25, 26, 27, 28, 29, 30, 31, 32, 33, 53, 54, 55, 56, 57, 58, 59, 60, 61, 62, 63, 64, 65, 66, 67] (by decide +kernel) (by decide +kernel)) (goodIn_sub (fun _ h => List.mem_cons_of_mem _ (List.mem_append_right _ h)) (by decide +kernel))
set_option maxRecDepth 20000 in
theorem gX3_load_X3_carOf : GoodIn wsX3_load (wsV RX3 119 RX3 yX3_carOf wsX3_carOf) := goodIn_app (goodIn_of _ (by decide +kernel)) ggX3_load_X3_carOf
theorem dX3_load_2 : decode cX3_load 2 = .ok (.invokevirtual 119, 3) := by decide +kernel
theorem dX3_stops_0 : decode cX3_stops 0 = .ok (.aload_n 0, 1) := by decide +kernel
theorem dX3_stops_1 : decode cX3_stops 1 = .ok (.iload_n 1, 1) := by decide +kernel
set_option maxRecDepth 20000 in
theorem ggX3_stops_X3_carOf : GoodIn wsX3_stops wsX3_carOf := goodIn_ca (goodIn_r _ [5, 6, 7, 8, 9, 10, 11, 12, 13, 14, 15, 16, 17, 18, 19, 20, 21, 22, 23, 24, 25, 26, 27, 28, 29, 30, 31, 32, 52, 53, 54, 55, 56, 57, 58, 59, 60, 61, 62, 63, 64, 65, 66] (by decide +kernel) (by decide +kernel)) (goodIn_sub (fun _ h => List.mem_cons_of_mem _ (List.mem_append_right _ h)) (by decide +kernel))
set_option maxRecDepth 20000 in
theorem gX3_stops_X3_carOf : GoodIn wsX3_stops (wsV RX3 119 RX3 yX3_carOf wsX3_carOf) := goodIn_app (goodIn_of _ (by decide +kernel)) ggX3_stops_X3_carOf
theorem dX3_stops_2 : decode cX3_stops 2 = .ok (.invokevirtual 119, 3) := by decide +kernel
theorem dX3_timeFor_0 : decode cX3_timeFor 0 = .ok (.aload_n 0, 1) := by decide +kernel
theorem dX3_timeFor_1 : decode cX3_timeFor 1 = .ok (.iload_n 1, 1) := by decide +kernel
set_option maxRecDepth 20000 in
theorem ggX3_timeFor_X3_carOf : GoodIn wsX3_timeFor wsX3_carOf := goodIn_ca (goodIn_r _ [5, 6, 7, 8, 9, 10, 11, 12, 13, 14, 15, 16, 17, 18, 19, 20, 21, 22, 23, 24, 25, 26, 27, 28, 29, 30, 31, 32, 80, 81, 82, 83, 84, 85, 86, 87, 88, 89, 90, 91, 92, 93, 94] (by decide +kernel) (by decide +kernel)) (goodIn_sub (fun _ h => List.mem_cons_of_mem _ (List.mem_append_left _ (List.mem_append_right _ h))) (by decide +kernel))
set_option maxRecDepth 20000 in
theorem gX3_timeFor_X3_carOf : GoodIn wsX3_timeFor (wsV RX3 119 RX3 yX3_carOf wsX3_carOf) := goodIn_app (goodIn_of _ (by decide +kernel)) ggX3_timeFor_X3_carOf
theorem dX3_timeFor_2 : decode cX3_timeFor 2 = .ok (.invokevirtual 119, 3) := by decide +kernel
theorem dX3_priceFor_0 : decode cX3_priceFor 0 = .ok (.aload_n 0, 1) := by decide +kernel
theorem dX3_priceFor_1 : decode cX3_priceFor 1 = .ok (.iload_n 1, 1) := by decide +kernel
set_option maxRecDepth 20000 in
theorem ggX3_priceFor_X3_carOf : GoodIn wsX3_priceFor wsX3_carOf := goodIn_ca (goodIn_r _ [5, 6, 7, 8, 9, 10, 11, 12, 13, 14, 15, 16, 17, 18, 19, 20, 21, 22, 23, 24, 25, 26, 27, 28, 29, 30, 31, 32, 89, 90, 91, 92, 93, 94, 95, 96, 97, 98, 99, 100, 101, 102, 103] (by decide +kernel) (by decide +kernel)) (goodIn_sub (fun _ h => List.mem_cons_of_mem _ (List.mem_append_left _ (List.mem_append_right _ h))) (by decide +kernel))
set_option maxRecDepth 20000 in
theorem gX3_priceFor_X3_carOf : GoodIn wsX3_priceFor (wsV RX3 119 RX3 yX3_carOf wsX3_carOf) := goodIn_app (goodIn_of _ (by decide +kernel)) ggX3_priceFor_X3_carOf
theorem dX3_priceFor_2 : decode cX3_priceFor 2 = .ok (.invokevirtual 119, 3) := by decide +kernel
theorem dX3_fail_0 : decode cX3_fail 0 = .ok (.aload_n 0, 1) := by decide +kernel
theorem dX3_fail_1 : decode cX3_fail 1 = .ok (.iload_n 1, 1) := by decide +kernel
set_option maxRecDepth 20000 in
theorem ggX3_fail_X3_carOf : GoodIn wsX3_fail wsX3_carOf := goodIn_ca (goodIn_r _ [6, 7, 8, 9, 10, 11, 12, 13, 14, 15, 16, 17, 18, 19, 20, 21, 22, 23, 24, 25, 26, 27, 28, 29, 30, 31, 32, 33, 60, 61, 62, 63, 64, 65, 66, 67, 68, 69, 70, 71, 72, 73, 74] (by decide +kernel) (by decide +kernel)) (goodIn_sub (fun _ h => List.mem_cons_of_mem _ (List.mem_append_right _ h)) (by decide +kernel))
set_option maxRecDepth 20000 in
theorem gX3_fail_X3_carOf : GoodIn wsX3_fail (wsV RX3 119 RX3 yX3_carOf wsX3_carOf) := goodIn_app (goodIn_of _ (by decide +kernel)) ggX3_fail_X3_carOf
theorem dX3_fail_2 : decode cX3_fail 2 = .ok (.invokevirtual 119, 3) := by decide +kernel
theorem dX3_state_0 : decode cX3_state 0 = .ok (.aload_n 0, 1) := by decide +kernel
theorem dX3_state_1 : decode cX3_state 1 = .ok (.iload_n 1, 1) := by decide +kernel
set_option maxRecDepth 20000 in
theorem ggX3_state_X3_personOf : GoodIn wsX3_state wsX3_personOf := goodIn_ca (goodIn_r _ [6, 7, 8, 9, 10, 11, 12, 13, 14, 15, 16, 17, 18, 19, 20, 21, 22, 23, 24, 25, 26, 27, 28, 29, 30, 31, 32, 33, 41, 42, 43, 44, 45, 46, 47, 48, 49, 50, 51, 52, 53, 54, 55] (by decide +kernel) (by decide +kernel)) (goodIn_sub (fun _ h => List.mem_cons_of_mem _ (List.mem_append_right _ h)) (by decide +kernel))
set_option maxRecDepth 20000 in
theorem gX3_state_X3_personOf : GoodIn wsX3_state (wsV RX3 132 RX3 yX3_personOf wsX3_personOf) := goodIn_app (goodIn_of _ (by decide +kernel)) ggX3_state_X3_personOf
theorem dX3_state_2 : decode cX3_state 2 = .ok (.invokevirtual 132, 3) := by decide +kernel
theorem dX3_placeOf_0 : decode cX3_placeOf 0 = .ok (.aload_n 0, 1) := by decide +kernel
theorem dX3_placeOf_1 : decode cX3_placeOf 1 = .ok (.iload_n 1, 1) := by decide +kernel
set_option maxRecDepth 20000 in
theorem ggX3_placeOf_X3_personOf : GoodIn wsX3_placeOf wsX3_personOf := goodIn_ca (goodIn_r _ [8, 9, 10, 11, 12, 13, 14, 15, 16, 17, 18, 19, 20, 21, 22, 23, 24, 25, 26, 27, 28, 29, 30, 31, 32, 33, 34, 35, 43, 44, 45, 46, 47, 48, 49, 50, 51, 52, 53, 54, 55, 56, 57] (by decide +kernel) (by decide +kernel)) (goodIn_sub (fun _ h => List.mem_cons_of_mem _ (List.mem_append_right _ h)) (by decide +kernel))
set_option maxRecDepth 20000 in
theorem gX3_placeOf_X3_personOf : GoodIn wsX3_placeOf (wsV RX3 132 RX3 yX3_personOf wsX3_personOf) := goodIn_app (goodIn_of _ (by decide +kernel)) ggX3_placeOf_X3_personOf
theorem dX3_placeOf_2 : decode cX3_placeOf 2 = .ok (.invokevirtual 132, 3) := by decide +kernel
theorem dX3_waited_0 : decode cX3_waited 0 = .ok (.aload_n 0, 1) := by decide +kernel
theorem dX3_waited_1 : decode cX3_waited 1 = .ok (.iload_n 1, 1) := by decide +kernel
set_option maxRecDepth 20000 in
theorem ggX3_waited_X3_personOf : GoodIn wsX3_waited wsX3_personOf := goodIn_ca (goodIn_r _ [6, 7, 8, 9, 10, 11, 12, 13, 14, 15, 16, 17, 18, 19, 20, 21, 22, 23, 24, 25, 26, 27, 28, 29, 30, 31, 32, 33, 41, 42, 43, 44, 45, 46, 47, 48, 49, 50, 51, 52, 53, 54, 55] (by decide +kernel) (by decide +kernel)) (goodIn_sub (fun _ h => List.mem_cons_of_mem _ (List.mem_append_right _ h)) (by decide +kernel))
set_option maxRecDepth 20000 in
theorem gX3_waited_X3_personOf : GoodIn wsX3_waited (wsV RX3 132 RX3 yX3_personOf wsX3_personOf) := goodIn_app (goodIn_of _ (by decide +kernel)) ggX3_waited_X3_personOf
theorem dX3_waited_2 : decode cX3_waited 2 = .ok (.invokevirtual 132, 3) := by decide +kernel
set_option maxHeartbeats 4000000 in
set_option maxRecDepth 100000 in
theorem c_X3_setTop (l : Launch) (hst : l.stackTraces = false) (em kw kb : Nat) (D : va_G) (x : Nat) (p0 : Int32) (c1 : Nat) (ps1 : Nat) (lg : Nat) (sz : Nat) : vx_Met l yX3_setTop wsX3_setTop ({ frames := 6, cells := 1, slots := 6, locals := 82 }) (va_Pc [.ref x, .int p0] (tw_Pre em kw kb D sz [(x, .inr (7, [.ref c1, .ref ps1, .ref lg, .int 9, .int 99, .int 0, .int 0, .int 0, .int ((-1)), .int 0, .int 0, .long 0])), (c1, .inr (3, [.int 0, .ref em, .int 0])), (ps1, .inr (3, [.int 0, .ref em, .int 0]))] [])) (va_Qi (fun (r : Int32) (u : tw_U) => (¬ p0 < 4 ∧ p0 ≤ 23) ∧ r = 9 ∧ u = ([], [])) (tw_B D (va_A [(x, .inr (7, [.ref c1, .ref ps1, .ref lg, .int 9, .int 99, .int 0, .int 0, .int 0, .int ((-1)), .int 0, .int 0, .long 0])), (c1, .inr (3, [.int 0, .ref em, .int 0])), (ps1, .inr (3, [.int 0, .ref em, .int 0]))] sz)) (va_A [(x, .inr (7, [.ref c1, .ref ps1, .ref lg, .int 9, .int 99, .int 0, .int 0, .int 0, .int ((-1)), .int 0, .int 0, .long 0])), (c1, .inr (3, [.int 0, .ref em, .int 0])), (ps1, .inr (3, [.int 0, .ref em, .int 0]))] sz)) (vx_X (fun (u : String × tw_U) => ((p0 < 4) ∨ (¬ p0 < 4 ∧ ¬ p0 ≤ 23)) ∧ u = ("java/lang/IllegalArgumentException", (([], []) : tw_U))) (tw_BX D (va_A [(x, .inr (7, [.ref c1, .ref ps1, .ref lg, .int 9, .int 99, .int 0, .int 0, .int 0, .int ((-1)), .int 0, .int 0, .long 0])), (c1, .inr (3, [.int 0, .ref em, .int 0])), (ps1, .inr (3, [.int 0, .ref em, .int 0]))] sz)) (va_A [(x, .inr (7, [.ref c1, .ref ps1, .ref lg, .int 9, .int 99, .int 0, .int 0, .int 0, .int ((-1)), .int 0, .int 0, .long 0])), (c1, .inr (3, [.int 0, .ref em, .int 0])), (ps1, .inr (3, [.int 0, .ref em, .int 0]))] sz)) 1 6 (va_A [(x, .inr (7, [.ref c1, .ref ps1, .ref lg, .int 9, .int 99, .int 0, .int 0, .int 0, .int ((-1)), .int 0, .int 0, .long 0])), (c1, .inr (3, [.int 0, .ref em, .int 0])), (ps1, .inr (3, [.int 0, .ref em, .int 0]))] sz) := by
  refine vx_ofW (cc := cX3_setTop) (maxL := 3) (ret := (some .int)) (by decide) rfl ?_
  intro p e s m args below meth c s₁ B hml htab hv
  obtain ⟨rfl, hsz, hP, hK, hD0, hF⟩ := hv
  have hx := B.exec
  have hb := B.bytes
  have hr := B.returns
  have hts := atoms_spec (ws := wsX3_setTop) B.pre
  have hown : s.vm.findClass RX3 = some m.cls := findClass_of_methodNamed B.named
  have hlocks := B.notSynchronized
  have hiRX3 : ∀ w ∈ u_ws RX3 TX3 12, w ∈ wsX3_setTop := by decide +kernel
  have hx41 : ∀ w ∈ (vx_atS RX3 41 "java/lang/IllegalArgumentException" ["java/lang/RuntimeException", "java/lang/Exception"]).filter goodWord, w ∈ wsX3_setTop := by decide +kernel
  subst hsz
  have hD := hD0.self (sz := s.heap.size)
  generalize hAe : va_A [(x, .inr (7, [.ref c1, .ref ps1, .ref lg, .int 9, .int 99, .int 0, .int 0, .int 0, .int ((-1)), .int 0, .int 0, .long 0])), (c1, .inr (3, [.int 0, .ref em, .int 0])), (ps1, .inr (3, [.int 0, .ref em, .int 0]))] s.heap.size = A at hD hF ⊢
  have hA : ∀ q : Nat, s.heap.size ≤ q → A q := fun q h => by rw [← hAe]; exact Or.inr h
  have hS : va_S A s.heap s.heap [] := va_S.rf
  have hP : va_P D vwCl [(x, .inr (7, [.ref c1, .ref ps1, .ref lg, .int 9, .int 99, .int 0, .int 0, .int 0, .int ((-1)), .int 0, .int 0, .long 0])), (c1, .inr (3, [.int 0, .ref em, .int 0])), (ps1, .inr (3, [.int 0, .ref em, .int 0]))] s.heap := hP
  have hl := lv_entry ([.ref x, .int p0]) (n := 3) (Nat.le_of_ble_eq_true rfl)
  rw [lg_entry_eq]
  generalize (lg_sl ([.ref x, .int p0]) ++ List.replicate (3 - (lg_sl ([.ref x, .int p0])).length) Slot.unset).toArray = ls at hl ⊢
  have hl : lv_has ls 3 [(0, .ref x), (1, .int p0)] := hl
  refine lv_iload_n hx hb dX3_setTop_0 rfl (lv_at hl 1 rfl) ?_
  refine lv_iconst (v := 4) hx hb dX3_setTop_1 (by decide) ?_
  refine lv_icmp_lt (tgt := 11) hx hb dX3_setTop_2 (by decide) (fun c_1 => ?_) (fun c_1 => ?_)
  · obtain ⟨sa, hstr⟩ := tw_str hF (q := (39, "the highest floor is out of range")) (by decide)
    have hP9 := hP.sub (ws' := []) [] rfl
    have hD9 := hD.sub (ws' := []) [] (by decide) rfl
    have hK9 := hK.sub (tys' := []) [] rfl
    exact vx_throwS hx hb hst (own := RX3) (cls := "java/lang/IllegalArgumentException") (text := "the highest floor is out of range") (names := ["java/lang/RuntimeException", "java/lang/Exception"]) (ik := 37) (is := 39) (ic := 41) hown (by decide +kernel) (by decide +kernel) (hts (.classLink RX3 37 "java/lang/IllegalArgumentException") (by decide +kernel)) (hts (.initialized "java/lang/IllegalArgumentException") (by decide +kernel)) hstr (tw_hat hF (fun w h => hts w (hx41 w h)) (by decide +kernel)) (by decide +kernel) hF.1 hF.2.1 hS (hl.1.trans hml.symm) dX3_setTop_11 dX3_setTop_14 dX3_setTop_15 dX3_setTop_17 dX3_setTop_20 (fun x9 h9 => (htab x9 h9).elim) (Nat.le_of_ble_eq_true rfl) (Nat.le_of_ble_eq_true rfl) (Nat.le_of_ble_eq_true rfl) (Nat.le_of_ble_eq_true rfl) hlocks (tw_exc hP9 hK9 hD9 hS _ ⟨(Or.inl c_1), rfl⟩) hS.2.2 (Nat.le_of_ble_eq_true rfl) (Nat.le_of_ble_eq_true rfl)
  · refine lv_iload_n hx hb dX3_setTop_5 rfl (lv_at hl 1 rfl) ?_
    refine lv_bipush (v := 23) hx hb dX3_setTop_6 (by decide) ?_
    refine lv_icmp_le (tgt := 21) hx hb dX3_setTop_8 (by decide) (fun c_2 => ?_) (fun c_2 => ?_)
    · refine lv_aload_n hx hb dX3_setTop_21 rfl (lv_at hl 0 rfl) ?_
      refine va_get (D := D) (ci := 7) (v := .ref c1) (C := RX3) (T := TX3) (N := 12) hx hb hts hiRX3 hown hK hP 0 rfl rfl 0 (by decide) (hts (.fieldLink RX3 10 "Towerliftry" "cars" "Ljava/util/ArrayList;") (by decide +kernel)) (fun _ h9 => h9) rfl dX3_setTop_22 ?_
      have hPc := hP.sub (ws' := [(c1, .inr (3, [.int 0, .ref em, .int 0]))]) [1] rfl
      have hDc := hD.sub (ws' := [(c1, .inr (3, [.int 0, .ref em, .int 0]))]) [1] (by decide) rfl
      have hKc := hK.sub (tys' := []) [] rfl
      have hFc := va_free (wc := [(c1, .inr (3, [.int 0, .ref em, .int 0]))]) hD hS hA [1] rfl
      refine va_calli (va_runV (As := []) (rest := []) ⟨hx, hb, hml, hown, hts⟩ (c_Jx4a65c_isEmpty_aae02 l hst em kw kb D c1 em _) (cwV 0 hts gX3_setTop_Jx4a65c_isEmpty_aae02 rfl rfl rfl (by decide +kernel) ⟨(Nat.le_of_ble_eq_true rfl), (Nat.le_of_ble_eq_true rfl)⟩) (tw_preV hF hS hFc hPc hKc hDc (va_recv hKc hPc (ci := 3) (q0 := 0) rfl rfl)) rfl rfl hl.1 rfl (lv_room (Nat.le_of_ble_eq_true rfl)) dX3_setTop_25 ⟨(Nat.le_of_ble_eq_true rfl), (Nat.le_of_ble_eq_true rfl)⟩) hS (fun q _ h => hFc q h) hFc (fun r u t H locs ht hvm hw hB hz1 hk1 hS => ?_)
      obtain ⟨rfl, rfl⟩ := hw
      obtain ⟨hP, hD, hK⟩ := tw_join (wr := [(x, .inr (7, [.ref c1, .ref ps1, .ref lg, .int 9, .int 99, .int 0, .int 0, .int 0, .int ((-1)), .int 0, .int 0, .long 0])), (ps1, .inr (3, [.int 0, .ref em, .int 0]))]) hP hD hK [1] [0, 2] rfl rfl (by decide) (by decide) hk1 hFc ht hvm hB
      have hP : va_P D vwCl [(x, .inr (7, [.ref c1, .ref ps1, .ref lg, .int 9, .int 99, .int 0, .int 0, .int 0, .int ((-1)), .int 0, .int 0, .long 0])), (ps1, .inr (3, [.int 0, .ref em, .int 0])), (c1, .inr (3, [.int 0, .ref em, .int 0]))] _ := hP
      have hD : va_D A [(x, .inr (7, [.ref c1, .ref ps1, .ref lg, .int 9, .int 99, .int 0, .int 0, .int 0, .int ((-1)), .int 0, .int 0, .long 0])), (ps1, .inr (3, [.int 0, .ref em, .int 0])), (c1, .inr (3, [.int 0, .ref em, .int 0]))] := hD
      have hK : va_K D vwCl [] s := hK
      refine W.widen (k := 0) (n := 0) (Nat.le_refl _) (Nat.le_refl _) ?_
      refine W.eq (g2 := F0 m 28 ls [.int 1]) rfl ?_
      refine lv_if_eq (tgt := 41) hx hb dX3_setTop_28 (by decide) (fun c9 => absurd c9 (by decide)) (fun c9 => ?_)
      refine lv_aload_n hx hb dX3_setTop_31 rfl (lv_at hl 0 rfl) ?_
      refine va_get (D := D) (ci := 7) (v := .ref ps1) (C := RX3) (T := TX3) (N := 12) hx hb hts hiRX3 hown hK hP 0 rfl rfl 1 (by decide) (hts (.fieldLink RX3 16 "Towerliftry" "persons" "Ljava/util/ArrayList;") (by decide +kernel)) (fun _ h9 => h9) rfl dX3_setTop_32 ?_
      have hPc := hP.sub (ws' := [(ps1, .inr (3, [.int 0, .ref em, .int 0]))]) [1] rfl
      have hDc := hD.sub (ws' := [(ps1, .inr (3, [.int 0, .ref em, .int 0]))]) [1] (by decide) rfl
      have hKc := hK.sub (tys' := []) [] rfl
      have hFc := va_free (wc := [(ps1, .inr (3, [.int 0, .ref em, .int 0]))]) hD hS hA [1] rfl
      refine va_calli (va_runV (As := []) (rest := []) ⟨hx, hb, hml, hown, hts⟩ (c_Jx4a65c_isEmpty_aae02 l hst em kw kb D ps1 em _) (cwV 0 hts gX3_setTop_Jx4a65c_isEmpty_aae02 rfl rfl rfl (by decide +kernel) ⟨(Nat.le_of_ble_eq_true rfl), (Nat.le_of_ble_eq_true rfl)⟩) (tw_preV hF hS hFc hPc hKc hDc (va_recv hKc hPc (ci := 3) (q0 := 0) rfl rfl)) rfl rfl hl.1 rfl (lv_room (Nat.le_of_ble_eq_true rfl)) dX3_setTop_35 ⟨(Nat.le_of_ble_eq_true rfl), (Nat.le_of_ble_eq_true rfl)⟩) hS (fun q _ h => hFc q h) hFc (fun r u t H locs ht hvm hw hB hz1 hk1 hS => ?_)
      obtain ⟨rfl, rfl⟩ := hw
      obtain ⟨hP, hD, hK⟩ := tw_join (wr := [(x, .inr (7, [.ref c1, .ref ps1, .ref lg, .int 9, .int 99, .int 0, .int 0, .int 0, .int ((-1)), .int 0, .int 0, .long 0])), (c1, .inr (3, [.int 0, .ref em, .int 0]))]) hP hD hK [1] [0, 2] rfl rfl (by decide) (by decide) hk1 hFc ht hvm hB
      have hP : va_P D vwCl [(x, .inr (7, [.ref c1, .ref ps1, .ref lg, .int 9, .int 99, .int 0, .int 0, .int 0, .int ((-1)), .int 0, .int 0, .long 0])), (c1, .inr (3, [.int 0, .ref em, .int 0])), (ps1, .inr (3, [.int 0, .ref em, .int 0]))] _ := hP
      have hD : va_D A [(x, .inr (7, [.ref c1, .ref ps1, .ref lg, .int 9, .int 99, .int 0, .int 0, .int 0, .int ((-1)), .int 0, .int 0, .long 0])), (c1, .inr (3, [.int 0, .ref em, .int 0])), (ps1, .inr (3, [.int 0, .ref em, .int 0]))] := hD
      have hK : va_K D vwCl [] s := hK
      refine W.widen (k := 0) (n := 0) (Nat.le_refl _) (Nat.le_refl _) ?_
      refine W.eq (g2 := F0 m 38 ls [.int 1]) rfl ?_
      refine lv_if_ne (tgt := 51) hx hb dX3_setTop_38 (by decide) (fun c9 => ?_) (fun c9 => absurd c9 (by decide))
      refine lv_aload_n hx hb dX3_setTop_51 rfl (lv_at hl 0 rfl) ?_
      refine va_get (D := D) (ci := 7) (v := .int 9) (C := RX3) (T := TX3) (N := 12) hx hb hts hiRX3 hown hK hP 0 rfl rfl 3 (by decide) (hts (.fieldLink RX3 26 "Towerliftry" "top" "I") (by decide +kernel)) (fun _ h9 => h9) rfl dX3_setTop_52 ?_
      refine lv_istore_n (lv' := [(2, .int 9), (0, .ref x), (1, .int p0)]) hx hb dX3_setTop_55 rfl hl (by decide) rfl (fun ls hl => ?_)
      refine lv_aload_n hx hb dX3_setTop_56 rfl (lv_at hl 1 rfl) ?_
      refine lv_iload_n hx hb dX3_setTop_57 rfl (lv_at hl 2 rfl) ?_
      refine va_put (D := D) (ci := 7) (v := .int p0) (ty := .int) (C := RX3) (T := TX3) (N := 12) hx hb hts hiRX3 tyX3 tyX3_ok nmX3 hown hK hP hD hS 0 rfl rfl 3 (by decide) (hts (.fieldLink RX3 26 "Towerliftry" "top" "I") (by decide +kernel)) (fun _ h9 => h9) rfl (by decide +kernel) rfl rfl (Nat.le_of_ble_eq_true rfl) dX3_setTop_58 (fun H locs hP hD hS => ?_)
      have hP : va_P D vwCl [(x, .inr (7, [.ref c1, .ref ps1, .ref lg, .int p0, .int 99, .int 0, .int 0, .int 0, .int ((-1)), .int 0, .int 0, .long 0])), (c1, .inr (3, [.int 0, .ref em, .int 0])), (ps1, .inr (3, [.int 0, .ref em, .int 0]))] _ := hP
      have hD : va_D A [(x, .inr (7, [.ref c1, .ref ps1, .ref lg, .int p0, .int 99, .int 0, .int 0, .int 0, .int ((-1)), .int 0, .int 0, .long 0])), (c1, .inr (3, [.int 0, .ref em, .int 0])), (ps1, .inr (3, [.int 0, .ref em, .int 0]))] := hD
      refine lv_iload_n hx hb dX3_setTop_61 rfl (lv_at hl 0 rfl) ?_
      refine W.widen (k := 1) (n := 6) (Nat.le_of_ble_eq_true rfl) (Nat.le_of_ble_eq_true rfl) ?_
      have hP9 := hP.sub (ws' := []) [] rfl
      have hD9 := hD.sub (ws' := []) [] (by decide) rfl
      have hK9 := hK.sub (tys' := []) [] rfl
      refine vx_ret ?_
      exact W.iret (v := 9) hx hb hr (fun t ht hW => ⟨⟨9, ([], []), rfl, ⟨⟨c_1, c_2⟩, rfl, rfl⟩, by rw [ht]; exact hP9, va_K.moved hW.alike hK9, hD9⟩, hS.F ht⟩) hS.2.2 dX3_setTop_62
    · obtain ⟨sa, hstr⟩ := tw_str hF (q := (39, "the highest floor is out of range")) (by decide)
      have hP9 := hP.sub (ws' := []) [] rfl
      have hD9 := hD.sub (ws' := []) [] (by decide) rfl
      have hK9 := hK.sub (tys' := []) [] rfl
      exact vx_throwS hx hb hst (own := RX3) (cls := "java/lang/IllegalArgumentException") (text := "the highest floor is out of range") (names := ["java/lang/RuntimeException", "java/lang/Exception"]) (ik := 37) (is := 39) (ic := 41) hown (by decide +kernel) (by decide +kernel) (hts (.classLink RX3 37 "java/lang/IllegalArgumentException") (by decide +kernel)) (hts (.initialized "java/lang/IllegalArgumentException") (by decide +kernel)) hstr (tw_hat hF (fun w h => hts w (hx41 w h)) (by decide +kernel)) (by decide +kernel) hF.1 hF.2.1 hS (hl.1.trans hml.symm) dX3_setTop_11 dX3_setTop_14 dX3_setTop_15 dX3_setTop_17 dX3_setTop_20 (fun x9 h9 => (htab x9 h9).elim) (Nat.le_of_ble_eq_true rfl) (Nat.le_of_ble_eq_true rfl) (Nat.le_of_ble_eq_true rfl) (Nat.le_of_ble_eq_true rfl) hlocks (tw_exc hP9 hK9 hD9 hS _ ⟨(Or.inr (⟨c_1, c_2⟩)), rfl⟩) hS.2.2 (Nat.le_of_ble_eq_true rfl) (Nat.le_of_ble_eq_true rfl)
set_option maxHeartbeats 4000000 in
set_option maxRecDepth 100000 in
theorem c_X3_car (l : Launch) (hst : l.stackTraces = false) (em kw kb : Nat) (D : va_G) (x : Nat) (p0 : Int32) (p1 : Int32) (p2 : Int32) (c1 : Nat) (ps1 : Nat) (lg : Nat) (sz : Nat) : vx_Met l yX3_car wsX3_car ({ frames := 6, cells := 2, slots := 29, locals := 101 }) (va_Pc [.ref x, .int p0, .int p1, .int p2] (tw_Pre em kw kb D sz [(x, .inr (7, [.ref c1, .ref ps1, .ref lg, .int 9, .int 99, .int 0, .int 0, .int 0, .int ((-1)), .int 0, .int 0, .long 0])), (c1, .inr (3, [.int 0, .ref em, .int 0]))] [])) (va_Qi (fun (r : Int32) (u : tw_U) => (¬ p0 < 0 ∧ ¬ 3 ≤ p0 ∧ (¬ p2 < 0 ∧ ¬ 9 < p2) ∧ ¬ p1 < 200 ∧ ¬ 2000 < p1 ∧ (p1 - p1 / (2 : Int32) * (2 : Int32)) = 0) ∧ r = 0 ∧ u = ([], [])) (tw_B D (va_A [(x, .inr (7, [.ref c1, .ref ps1, .ref lg, .int 9, .int 99, .int 0, .int 0, .int 0, .int ((-1)), .int 0, .int 0, .long 0])), (c1, .inr (3, [.int 0, .ref em, .int 0]))] sz)) (va_A [(x, .inr (7, [.ref c1, .ref ps1, .ref lg, .int 9, .int 99, .int 0, .int 0, .int 0, .int ((-1)), .int 0, .int 0, .long 0])), (c1, .inr (3, [.int 0, .ref em, .int 0]))] sz)) (vx_X (fun (u : String × tw_U) => ((p0 < 0) ∨ (¬ p0 < 0 ∧ 3 ≤ p0) ∨ (¬ p0 < 0 ∧ ¬ 3 ≤ p0 ∧ ((p2 < 0) ∨ (¬ p2 < 0 ∧ 9 < p2))) ∨ (¬ p0 < 0 ∧ ¬ 3 ≤ p0 ∧ (¬ p2 < 0 ∧ ¬ 9 < p2) ∧ p1 < 200) ∨ (¬ p0 < 0 ∧ ¬ 3 ≤ p0 ∧ (¬ p2 < 0 ∧ ¬ 9 < p2) ∧ ¬ p1 < 200 ∧ 2000 < p1) ∨ (¬ p0 < 0 ∧ ¬ 3 ≤ p0 ∧ (¬ p2 < 0 ∧ ¬ 9 < p2) ∧ ¬ p1 < 200 ∧ ¬ 2000 < p1 ∧ ¬ (p1 - p1 / (2 : Int32) * (2 : Int32)) = 0)) ∧ u = ("java/lang/IllegalArgumentException", (([], []) : tw_U))) (tw_BX D (va_A [(x, .inr (7, [.ref c1, .ref ps1, .ref lg, .int 9, .int 99, .int 0, .int 0, .int 0, .int ((-1)), .int 0, .int 0, .long 0])), (c1, .inr (3, [.int 0, .ref em, .int 0]))] sz)) (va_A [(x, .inr (7, [.ref c1, .ref ps1, .ref lg, .int 9, .int 99, .int 0, .int 0, .int 0, .int ((-1)), .int 0, .int 0, .long 0])), (c1, .inr (3, [.int 0, .ref em, .int 0]))] sz)) 2 29 (va_A [(x, .inr (7, [.ref c1, .ref ps1, .ref lg, .int 9, .int 99, .int 0, .int 0, .int 0, .int ((-1)), .int 0, .int 0, .long 0])), (c1, .inr (3, [.int 0, .ref em, .int 0]))] sz) := by
  refine vx_ofW (cc := cX3_car) (maxL := 6) (ret := (some .int)) (by decide) rfl ?_
  intro p e s m args below meth c s₁ B hml htab hv
  obtain ⟨rfl, hsz, hP, hK, hD0, hF⟩ := hv
  have hx := B.exec
  have hb := B.bytes
  have hr := B.returns
  have hts := atoms_spec (ws := wsX3_car) B.pre
  have hown : s.vm.findClass RX3 = some m.cls := findClass_of_methodNamed B.named
  have hlocks := B.notSynchronized
  have hiRX3 : ∀ w ∈ u_ws RX3 TX3 12, w ∈ wsX3_car := by decide +kernel
  have hiRX0 : ∀ w ∈ u_ws RX0 TX0 19, w ∈ wsX3_car := by decide +kernel
  have hx41 : ∀ w ∈ (vx_atS RX3 41 "java/lang/IllegalArgumentException" ["java/lang/RuntimeException", "java/lang/Exception"]).filter goodWord, w ∈ wsX3_car := by decide +kernel
  subst hsz
  have hD := hD0.self (sz := s.heap.size)
  generalize hAe : va_A [(x, .inr (7, [.ref c1, .ref ps1, .ref lg, .int 9, .int 99, .int 0, .int 0, .int 0, .int ((-1)), .int 0, .int 0, .long 0])), (c1, .inr (3, [.int 0, .ref em, .int 0]))] s.heap.size = A at hD hF ⊢
  have hA : ∀ q : Nat, s.heap.size ≤ q → A q := fun q h => by rw [← hAe]; exact Or.inr h
  have hS : va_S A s.heap s.heap [] := va_S.rf
  have hP : va_P D vwCl [(x, .inr (7, [.ref c1, .ref ps1, .ref lg, .int 9, .int 99, .int 0, .int 0, .int 0, .int ((-1)), .int 0, .int 0, .long 0])), (c1, .inr (3, [.int 0, .ref em, .int 0]))] s.heap := hP
  have hl := lv_entry ([.ref x, .int p0, .int p1, .int p2]) (n := 6) (Nat.le_of_ble_eq_true rfl)
  rw [lg_entry_eq]
  generalize (lg_sl ([.ref x, .int p0, .int p1, .int p2]) ++ List.replicate (6 - (lg_sl ([.ref x, .int p0, .int p1, .int p2])).length) Slot.unset).toArray = ls at hl ⊢
  have hl : lv_has ls 6 [(0, .ref x), (1, .int p0), (2, .int p1), (3, .int p2)] := hl
  refine lv_iload_n hx hb dX3_car_0 rfl (lv_at hl 1 rfl) ?_
  refine lv_if_lt (tgt := 17) hx hb dX3_car_1 (by decide) (fun c_1 => ?_) (fun c_1 => ?_)
  · obtain ⟨sa, hstr⟩ := tw_str hF (q := (57, "no such shaft or floor")) (by decide)
    have hP9 := hP.sub (ws' := []) [] rfl
    have hD9 := hD.sub (ws' := []) [] (by decide) rfl
    have hK9 := hK.sub (tys' := []) [] rfl
    exact vx_throwS hx hb hst (own := RX3) (cls := "java/lang/IllegalArgumentException") (text := "no such shaft or floor") (names := ["java/lang/RuntimeException", "java/lang/Exception"]) (ik := 37) (is := 57) (ic := 41) hown (by decide +kernel) (by decide +kernel) (hts (.classLink RX3 37 "java/lang/IllegalArgumentException") (by decide +kernel)) (hts (.initialized "java/lang/IllegalArgumentException") (by decide +kernel)) hstr (tw_hat hF (fun w h => hts w (hx41 w h)) (by decide +kernel)) (by decide +kernel) hF.1 hF.2.1 hS (hl.1.trans hml.symm) dX3_car_17 dX3_car_20 dX3_car_21 dX3_car_23 dX3_car_26 (fun x9 h9 => (htab x9 h9).elim) (Nat.le_of_ble_eq_true rfl) (Nat.le_of_ble_eq_true rfl) (Nat.le_of_ble_eq_true rfl) (Nat.le_of_ble_eq_true rfl) hlocks (tw_exc hP9 hK9 hD9 hS _ ⟨(Or.inl c_1), rfl⟩) hS.2.2 (Nat.le_of_ble_eq_true rfl) (Nat.le_of_ble_eq_true rfl)
  · refine lv_iload_n hx hb dX3_car_4 rfl (lv_at hl 1 rfl) ?_
    refine lv_iconst (v := 3) hx hb dX3_car_5 (by decide) ?_
    refine lv_icmp_ge (tgt := 17) hx hb dX3_car_6 (by decide) (fun c_2 => ?_) (fun c_2 => ?_)
    · obtain ⟨sa, hstr⟩ := tw_str hF (q := (57, "no such shaft or floor")) (by decide)
      have hP9 := hP.sub (ws' := []) [] rfl
      have hD9 := hD.sub (ws' := []) [] (by decide) rfl
      have hK9 := hK.sub (tys' := []) [] rfl
      exact vx_throwS hx hb hst (own := RX3) (cls := "java/lang/IllegalArgumentException") (text := "no such shaft or floor") (names := ["java/lang/RuntimeException", "java/lang/Exception"]) (ik := 37) (is := 57) (ic := 41) hown (by decide +kernel) (by decide +kernel) (hts (.classLink RX3 37 "java/lang/IllegalArgumentException") (by decide +kernel)) (hts (.initialized "java/lang/IllegalArgumentException") (by decide +kernel)) hstr (tw_hat hF (fun w h => hts w (hx41 w h)) (by decide +kernel)) (by decide +kernel) hF.1 hF.2.1 hS (hl.1.trans hml.symm) dX3_car_17 dX3_car_20 dX3_car_21 dX3_car_23 dX3_car_26 (fun x9 h9 => (htab x9 h9).elim) (Nat.le_of_ble_eq_true rfl) (Nat.le_of_ble_eq_true rfl) (Nat.le_of_ble_eq_true rfl) (Nat.le_of_ble_eq_true rfl) hlocks (tw_exc hP9 hK9 hD9 hS _ ⟨(Or.inr (Or.inl ⟨c_1, c_2⟩)), rfl⟩) hS.2.2 (Nat.le_of_ble_eq_true rfl) (Nat.le_of_ble_eq_true rfl)
    · refine lv_aload_n hx hb dX3_car_9 rfl (lv_at hl 0 rfl) ?_
      refine lv_iload_n hx hb dX3_car_10 rfl (lv_at hl 3 rfl) ?_
      have hPc := hP.sub (ws' := [(x, .inr (7, [.ref c1, .ref ps1, .ref lg, .int 9, .int 99, .int 0, .int 0, .int 0, .int ((-1)), .int 0, .int 0, .long 0]))]) [0] rfl
      have hDc := hD.sub (ws' := [(x, .inr (7, [.ref c1, .ref ps1, .ref lg, .int 9, .int 99, .int 0, .int 0, .int 0, .int ((-1)), .int 0, .int 0, .long 0]))]) [0] (by decide) rfl
      have hKc := hK.sub (tys' := []) [] rfl
      have hFc := va_free (wc := [(x, .inr (7, [.ref c1, .ref ps1, .ref lg, .int 9, .int 99, .int 0, .int 0, .int 0, .int ((-1)), .int 0, .int 0, .long 0]))]) hD hS hA [0] rfl
      refine va_calli (va_runV (As := [.int p2]) (rest := []) ⟨hx, hb, hml, hown, hts⟩ (c_X3_isFloor l hst em kw kb D x p2 c1 ps1 lg _) (cwV 1 hts gX3_car_X3_isFloor rfl rfl rfl (by decide +kernel) ⟨(Nat.le_of_ble_eq_true rfl), (Nat.le_of_ble_eq_true rfl)⟩) (tw_preV hF hS hFc hPc hKc hDc (va_recv hKc hPc (ci := 7) (q0 := 0) rfl rfl)) rfl rfl hl.1 rfl (lv_room (Nat.le_of_ble_eq_true rfl)) dX3_car_11 ⟨(Nat.le_of_ble_eq_true rfl), (Nat.le_of_ble_eq_true rfl)⟩) hS (fun q _ h => hFc q h) hFc (fun r u t H locs ht hvm hw hB hz1 hk1 hS => ?_)
      rcases hw with hw | hw
      · obtain ⟨g_3, rfl, rfl⟩ := hw
        obtain ⟨hP, hD, hK⟩ := tw_join (wr := [(c1, .inr (3, [.int 0, .ref em, .int 0]))]) hP hD hK [0] [1] rfl rfl (by decide) (by decide) hk1 hFc ht hvm hB
        have hP : va_P D vwCl [(c1, .inr (3, [.int 0, .ref em, .int 0])), (x, .inr (7, [.ref c1, .ref ps1, .ref lg, .int 9, .int 99, .int 0, .int 0, .int 0, .int ((-1)), .int 0, .int 0, .long 0]))] _ := hP
        have hD : va_D A [(c1, .inr (3, [.int 0, .ref em, .int 0])), (x, .inr (7, [.ref c1, .ref ps1, .ref lg, .int 9, .int 99, .int 0, .int 0, .int 0, .int ((-1)), .int 0, .int 0, .long 0]))] := hD
        have hK : va_K D vwCl [] s := hK
        refine W.widen (k := 0) (n := 0) (Nat.le_refl _) (Nat.le_refl _) ?_
        refine W.eq (g2 := F0 m 14 ls [.int 0]) rfl ?_
        refine lv_if_ne (tgt := 27) hx hb dX3_car_14 (by decide) (fun c9 => absurd c9 (by decide)) (fun c9 => ?_)
        obtain ⟨sa, hstr⟩ := tw_str hF (q := (57, "no such shaft or floor")) (by decide)
        have hP9 := hP.sub (ws' := []) [] rfl
        have hD9 := hD.sub (ws' := []) [] (by decide) rfl
        have hK9 := hK.sub (tys' := []) [] rfl
        exact vx_throwS hx hb hst (own := RX3) (cls := "java/lang/IllegalArgumentException") (text := "no such shaft or floor") (names := ["java/lang/RuntimeException", "java/lang/Exception"]) (ik := 37) (is := 57) (ic := 41) hown (by decide +kernel) (by decide +kernel) (hts (.classLink RX3 37 "java/lang/IllegalArgumentException") (by decide +kernel)) (hts (.initialized "java/lang/IllegalArgumentException") (by decide +kernel)) hstr (tw_hat hF (fun w h => hts w (hx41 w h)) (by decide +kernel)) (by decide +kernel) hF.1 hF.2.1 hS (hl.1.trans hml.symm) dX3_car_17 dX3_car_20 dX3_car_21 dX3_car_23 dX3_car_26 (fun x9 h9 => (htab x9 h9).elim) (Nat.le_of_ble_eq_true rfl) (Nat.le_of_ble_eq_true rfl) (Nat.le_of_ble_eq_true rfl) (Nat.le_of_ble_eq_true rfl) hlocks (tw_exc hP9 hK9 hD9 hS _ ⟨(Or.inr (Or.inr (Or.inl ⟨c_1, c_2, g_3⟩))), rfl⟩) hS.2.2 (Nat.le_of_ble_eq_true rfl) (Nat.le_of_ble_eq_true rfl)
      · obtain ⟨g_4, rfl, rfl⟩ := hw
        obtain ⟨hP, hD, hK⟩ := tw_join (wr := [(c1, .inr (3, [.int 0, .ref em, .int 0]))]) hP hD hK [0] [1] rfl rfl (by decide) (by decide) hk1 hFc ht hvm hB
        have hP : va_P D vwCl [(c1, .inr (3, [.int 0, .ref em, .int 0])), (x, .inr (7, [.ref c1, .ref ps1, .ref lg, .int 9, .int 99, .int 0, .int 0, .int 0, .int ((-1)), .int 0, .int 0, .long 0]))] _ := hP
        have hD : va_D A [(c1, .inr (3, [.int 0, .ref em, .int 0])), (x, .inr (7, [.ref c1, .ref ps1, .ref lg, .int 9, .int 99, .int 0, .int 0, .int 0, .int ((-1)), .int 0, .int 0, .long 0]))] := hD
        have hK : va_K D vwCl [] s := hK
        refine W.widen (k := 0) (n := 0) (Nat.le_refl _) (Nat.le_refl _) ?_
        refine W.eq (g2 := F0 m 14 ls [.int 1]) rfl ?_
        refine lv_if_ne (tgt := 27) hx hb dX3_car_14 (by decide) (fun c9 => ?_) (fun c9 => absurd c9 (by decide))
        refine lv_iload_n hx hb dX3_car_27 rfl (lv_at hl 2 rfl) ?_
        refine lv_sipush (v := 200) hx hb dX3_car_28 (by decide) ?_
        refine lv_icmp_lt (tgt := 47) hx hb dX3_car_31 (by decide) (fun c_5 => ?_) (fun c_5 => ?_)
        · obtain ⟨sa, hstr⟩ := tw_str hF (q := (59, "the room is odd or out of range")) (by decide)
          have hP9 := hP.sub (ws' := []) [] rfl
          have hD9 := hD.sub (ws' := []) [] (by decide) rfl
          have hK9 := hK.sub (tys' := []) [] rfl
          exact vx_throwS hx hb hst (own := RX3) (cls := "java/lang/IllegalArgumentException") (text := "the room is odd or out of range") (names := ["java/lang/RuntimeException", "java/lang/Exception"]) (ik := 37) (is := 59) (ic := 41) hown (by decide +kernel) (by decide +kernel) (hts (.classLink RX3 37 "java/lang/IllegalArgumentException") (by decide +kernel)) (hts (.initialized "java/lang/IllegalArgumentException") (by decide +kernel)) hstr (tw_hat hF (fun w h => hts w (hx41 w h)) (by decide +kernel)) (by decide +kernel) hF.1 hF.2.1 hS (hl.1.trans hml.symm) dX3_car_47 dX3_car_50 dX3_car_51 dX3_car_53 dX3_car_56 (fun x9 h9 => (htab x9 h9).elim) (Nat.le_of_ble_eq_true rfl) (Nat.le_of_ble_eq_true rfl) (Nat.le_of_ble_eq_true rfl) (Nat.le_of_ble_eq_true rfl) hlocks (tw_exc hP9 hK9 hD9 hS _ ⟨(Or.inr (Or.inr (Or.inr (Or.inl ⟨c_1, c_2, g_4, c_5⟩)))), rfl⟩) hS.2.2 (Nat.le_of_ble_eq_true rfl) (Nat.le_of_ble_eq_true rfl)
        · refine lv_iload_n hx hb dX3_car_34 rfl (lv_at hl 2 rfl) ?_
          refine lv_sipush (v := 2000) hx hb dX3_car_35 (by decide) ?_
          refine lv_icmp_gt (tgt := 47) hx hb dX3_car_38 (by decide) (fun c_6 => ?_) (fun c_6 => ?_)
          · obtain ⟨sa, hstr⟩ := tw_str hF (q := (59, "the room is odd or out of range")) (by decide)
            have hP9 := hP.sub (ws' := []) [] rfl
            have hD9 := hD.sub (ws' := []) [] (by decide) rfl
            have hK9 := hK.sub (tys' := []) [] rfl
            exact vx_throwS hx hb hst (own := RX3) (cls := "java/lang/IllegalArgumentException") (text := "the room is odd or out of range") (names := ["java/lang/RuntimeException", "java/lang/Exception"]) (ik := 37) (is := 59) (ic := 41) hown (by decide +kernel) (by decide +kernel) (hts (.classLink RX3 37 "java/lang/IllegalArgumentException") (by decide +kernel)) (hts (.initialized "java/lang/IllegalArgumentException") (by decide +kernel)) hstr (tw_hat hF (fun w h => hts w (hx41 w h)) (by decide +kernel)) (by decide +kernel) hF.1 hF.2.1 hS (hl.1.trans hml.symm) dX3_car_47 dX3_car_50 dX3_car_51 dX3_car_53 dX3_car_56 (fun x9 h9 => (htab x9 h9).elim) (Nat.le_of_ble_eq_true rfl) (Nat.le_of_ble_eq_true rfl) (Nat.le_of_ble_eq_true rfl) (Nat.le_of_ble_eq_true rfl) hlocks (tw_exc hP9 hK9 hD9 hS _ ⟨(Or.inr (Or.inr (Or.inr (Or.inr (Or.inl ⟨c_1, c_2, g_4, c_5, c_6⟩))))), rfl⟩) hS.2.2 (Nat.le_of_ble_eq_true rfl) (Nat.le_of_ble_eq_true rfl)
          · refine lv_iload_n hx hb dX3_car_41 rfl (lv_at hl 2 rfl) ?_
            refine lv_iconst (v := 2) hx hb dX3_car_42 (by decide) ?_
            refine lv_irem hx hb dX3_car_43 (by decide) ?_
            refine lv_if_eq (tgt := 57) hx hb dX3_car_44 (by decide) (fun c_7 => ?_) (fun c_7 => ?_)
            · refine lv_aload_n hx hb dX3_car_57 rfl (lv_at hl 0 rfl) ?_
              refine lv_iload_n hx hb dX3_car_58 rfl (lv_at hl 1 rfl) ?_
              have hPc := hP.sub (ws' := [(x, .inr (7, [.ref c1, .ref ps1, .ref lg, .int 9, .int 99, .int 0, .int 0, .int 0, .int ((-1)), .int 0, .int 0, .long 0])), (c1, .inr (3, [.int 0, .ref em, .int 0]))]) [1, 0] rfl
              have hDc := hD.sub (ws' := [(x, .inr (7, [.ref c1, .ref ps1, .ref lg, .int 9, .int 99, .int 0, .int 0, .int 0, .int ((-1)), .int 0, .int 0, .long 0])), (c1, .inr (3, [.int 0, .ref em, .int 0]))]) [1, 0] (by decide) rfl
              have hKc := hK.sub (tys' := []) [] rfl
              have hFc := va_free (wc := [(x, .inr (7, [.ref c1, .ref ps1, .ref lg, .int 9, .int 99, .int 0, .int 0, .int 0, .int ((-1)), .int 0, .int 0, .long 0])), (c1, .inr (3, [.int 0, .ref em, .int 0]))]) hD hS hA [1, 0] rfl
              refine va_callq (va_runV (As := [.int p0]) (rest := []) ⟨hx, hb, hml, hown, hts⟩ (c_X3_firstIn l hst em kw kb D x p0 c1 ps1 lg _) (cwV 1 hts gX3_car_X3_firstIn rfl rfl rfl (by decide +kernel) ⟨(Nat.le_of_ble_eq_true rfl), (Nat.le_of_ble_eq_true rfl)⟩) (tw_preV hF hS hFc hPc hKc hDc (va_recv hKc hPc (ci := 7) (q0 := 0) rfl rfl)) rfl rfl hl.1 rfl (lv_room (Nat.le_of_ble_eq_true rfl)) dX3_car_59 ⟨(Nat.le_of_ble_eq_true rfl), (Nat.le_of_ble_eq_true rfl)⟩) hS (fun q _ h => hFc q h) hFc (fun r u t H locs ht hvm hw hB hz1 hk1 hS => ?_)
              obtain ⟨rfl, rfl⟩ := hw
              obtain ⟨hP, hD, hK⟩ := tw_join (wr := []) hP hD hK [1, 0] [] rfl rfl (by decide) (by decide) hk1 hFc ht hvm hB
              have hP : va_P D vwCl [(x, .inr (7, [.ref c1, .ref ps1, .ref lg, .int 9, .int 99, .int 0, .int 0, .int 0, .int ((-1)), .int 0, .int 0, .long 0])), (c1, .inr (3, [.int 0, .ref em, .int 0]))] _ := hP
              have hD : va_D A [(x, .inr (7, [.ref c1, .ref ps1, .ref lg, .int 9, .int 99, .int 0, .int 0, .int 0, .int ((-1)), .int 0, .int 0, .long 0])), (c1, .inr (3, [.int 0, .ref em, .int 0]))] := hD
              have hK : va_K D vwCl [] s := hK
              refine W.widen (k := 0) (n := 0) (Nat.le_refl _) (Nat.le_refl _) ?_
              refine W.eq (g2 := F0 m 62 ls [.null]) rfl ?_
              refine lv_astoreN (lv' := [(4, .null), (0, .ref x), (1, .int p0), (2, .int p1), (3, .int p2)]) hx hb dX3_car_62 hl (by decide) rfl (fun ls hl => ?_)
              refine lv_aloadN hx hb dX3_car_64 (lv_at hl 0 rfl) ?_
              refine lv_ifnullN (tgt := 87) hx hb dX3_car_66 (by decide) ?_
              refine lv_aload_n hx hb dX3_car_87 rfl (lv_at hl 1 rfl) ?_
              refine va_get (D := D) (ci := 7) (v := .ref c1) (C := RX3) (T := TX3) (N := 12) hx hb hts hiRX3 hown hK hP 0 rfl rfl 0 (by decide) (hts (.fieldLink RX3 10 "Towerliftry" "cars" "Ljava/util/ArrayList;") (by decide +kernel)) (fun _ h9 => h9) rfl dX3_car_88 ?_
              have hPc := hP.sub (ws' := [(c1, .inr (3, [.int 0, .ref em, .int 0]))]) [1] rfl
              have hDc := hD.sub (ws' := [(c1, .inr (3, [.int 0, .ref em, .int 0]))]) [1] (by decide) rfl
              have hKc := hK.sub (tys' := []) [] rfl
              have hFc := va_free (wc := [(c1, .inr (3, [.int 0, .ref em, .int 0]))]) hD hS hA [1] rfl
              refine va_calli (va_runV (As := []) (rest := []) ⟨hx, hb, hml, hown, hts⟩ (c_size0 l hst em kw kb D c1 em _) (cwV 0 hts gX3_car_Jx4a65c_size_8abf5 rfl rfl rfl (by decide +kernel) ⟨(Nat.le_of_ble_eq_true rfl), (Nat.le_of_ble_eq_true rfl)⟩) (tw_preV hF hS hFc hPc hKc hDc (va_recv hKc hPc (ci := 3) (q0 := 0) rfl rfl)) rfl rfl hl.1 rfl (lv_room (Nat.le_of_ble_eq_true rfl)) dX3_car_91 ⟨(Nat.le_of_ble_eq_true rfl), (Nat.le_of_ble_eq_true rfl)⟩) hS (fun q _ h => hFc q h) hFc (fun r u t H locs ht hvm hw hB hz1 hk1 hS => ?_)
              obtain ⟨rfl, rfl⟩ := hw
              obtain ⟨hP, hD, hK⟩ := tw_join (wr := [(x, .inr (7, [.ref c1, .ref ps1, .ref lg, .int 9, .int 99, .int 0, .int 0, .int 0, .int ((-1)), .int 0, .int 0, .long 0]))]) hP hD hK [1] [0] rfl rfl (by decide) (by decide) hk1 hFc ht hvm hB
              have hP : va_P D vwCl [(x, .inr (7, [.ref c1, .ref ps1, .ref lg, .int 9, .int 99, .int 0, .int 0, .int 0, .int ((-1)), .int 0, .int 0, .long 0])), (c1, .inr (3, [.int 0, .ref em, .int 0]))] _ := hP
              have hD : va_D A [(x, .inr (7, [.ref c1, .ref ps1, .ref lg, .int 9, .int 99, .int 0, .int 0, .int 0, .int ((-1)), .int 0, .int 0, .long 0])), (c1, .inr (3, [.int 0, .ref em, .int 0]))] := hD
              have hK : va_K D vwCl [] s := hK
              refine W.widen (k := 0) (n := 0) (Nat.le_refl _) (Nat.le_refl _) ?_
              refine W.eq (g2 := F0 m 94 ls [.int 0]) rfl ?_
              refine lv_iconst (v := 5) hx hb dX3_car_94 (by decide) ?_
              refine lv_icmp_lt (tgt := 108) hx hb dX3_car_95 (by decide) (fun c9 => ?_) (fun c9 => absurd c9 (by decide))
              refine va_new (ci := 4) (fs := [.int 0, .int 0, .int 0, .int 0, .int 0, .int 0, .int 0, .int 0, .int 0, .int 0, .int 0, .int 0, .int 0, .int 0, .int 0, .int 0, .int 0, .int 0, .null]) (C := RX0) (T := TX0) (N := 19) hx hb hts hiRX0 tyX0 tyX0_ok hown (hts (.classLink RX3 66 RX0) (by decide +kernel)) (hts (.instantiable RX0 19) (by decide +kernel)) (hts (.initialized RX0) (by decide +kernel)) hK hP hD hS hA rfl (by decide +kernel) (Nat.le_of_ble_eq_true rfl) (Nat.le_of_ble_eq_true rfl) dX3_car_108 (fun q_8 H hP hD hS => ?_)
              have hP : va_P D vwCl [(x, .inr (7, [.ref c1, .ref ps1, .ref lg, .int 9, .int 99, .int 0, .int 0, .int 0, .int ((-1)), .int 0, .int 0, .long 0])), (c1, .inr (3, [.int 0, .ref em, .int 0])), (q_8, .inr (4, [.int 0, .int 0, .int 0, .int 0, .int 0, .int 0, .int 0, .int 0, .int 0, .int 0, .int 0, .int 0, .int 0, .int 0, .int 0, .int 0, .int 0, .int 0, .null]))] _ := hP
              have hD : va_D A [(x, .inr (7, [.ref c1, .ref ps1, .ref lg, .int 9, .int 99, .int 0, .int 0, .int 0, .int ((-1)), .int 0, .int 0, .long 0])), (c1, .inr (3, [.int 0, .ref em, .int 0])), (q_8, .inr (4, [.int 0, .int 0, .int 0, .int 0, .int 0, .int 0, .int 0, .int 0, .int 0, .int 0, .int 0, .int 0, .int 0, .int 0, .int 0, .int 0, .int 0, .int 0, .null]))] := hD
              refine W.widen (k := 1) (n := 19) (Nat.le_refl _) (Nat.le_refl _) ?_
              refine lv_dup hx hb dX3_car_111 rfl ?_
              refine lv_aload_n hx hb dX3_car_112 rfl (lv_at hl 1 rfl) ?_
              refine va_get (D := D) (ci := 7) (v := .ref c1) (C := RX3) (T := TX3) (N := 12) hx hb hts hiRX3 hown hK hP 0 rfl rfl 0 (by decide) (hts (.fieldLink RX3 10 "Towerliftry" "cars" "Ljava/util/ArrayList;") (by decide +kernel)) (fun _ h9 => h9) rfl dX3_car_113 ?_
              have hPc := hP.sub (ws' := [(c1, .inr (3, [.int 0, .ref em, .int 0]))]) [1] rfl
              have hDc := hD.sub (ws' := [(c1, .inr (3, [.int 0, .ref em, .int 0]))]) [1] (by decide) rfl
              have hKc := hK.sub (tys' := []) [] rfl
              have hFc := va_free (wc := [(c1, .inr (3, [.int 0, .ref em, .int 0]))]) hD hS hA [1] rfl
              refine va_calli (va_runV (As := []) (rest := [.ref q_8, .ref q_8]) ⟨hx, hb, hml, hown, hts⟩ (c_size0 l hst em kw kb D c1 em _) (cwV 0 hts gX3_car_Jx4a65c_size_8abf5 rfl rfl rfl (by decide +kernel) ⟨(Nat.le_of_ble_eq_true rfl), (Nat.le_of_ble_eq_true rfl)⟩) (tw_preV hF hS hFc hPc hKc hDc (va_recv hKc hPc (ci := 3) (q0 := 0) rfl rfl)) rfl rfl hl.1 rfl (lv_room (Nat.le_of_ble_eq_true rfl)) dX3_car_116 ⟨(Nat.le_of_ble_eq_true rfl), (Nat.le_of_ble_eq_true rfl)⟩) hS (fun q _ h => hFc q h) hFc (fun r u t H locs ht hvm hw hB hz1 hk1 hS => ?_)
              obtain ⟨rfl, rfl⟩ := hw
              obtain ⟨hP, hD, hK⟩ := tw_join (wr := [(x, .inr (7, [.ref c1, .ref ps1, .ref lg, .int 9, .int 99, .int 0, .int 0, .int 0, .int ((-1)), .int 0, .int 0, .long 0])), (q_8, .inr (4, [.int 0, .int 0, .int 0, .int 0, .int 0, .int 0, .int 0, .int 0, .int 0, .int 0, .int 0, .int 0, .int 0, .int 0, .int 0, .int 0, .int 0, .int 0, .null]))]) hP hD hK [1] [0, 2] rfl rfl (by decide) (by decide) hk1 hFc ht hvm hB
              have hP : va_P D vwCl [(x, .inr (7, [.ref c1, .ref ps1, .ref lg, .int 9, .int 99, .int 0, .int 0, .int 0, .int ((-1)), .int 0, .int 0, .long 0])), (q_8, .inr (4, [.int 0, .int 0, .int 0, .int 0, .int 0, .int 0, .int 0, .int 0, .int 0, .int 0, .int 0, .int 0, .int 0, .int 0, .int 0, .int 0, .int 0, .int 0, .null])), (c1, .inr (3, [.int 0, .ref em, .int 0]))] _ := hP
              have hD : va_D A [(x, .inr (7, [.ref c1, .ref ps1, .ref lg, .int 9, .int 99, .int 0, .int 0, .int 0, .int ((-1)), .int 0, .int 0, .long 0])), (q_8, .inr (4, [.int 0, .int 0, .int 0, .int 0, .int 0, .int 0, .int 0, .int 0, .int 0, .int 0, .int 0, .int 0, .int 0, .int 0, .int 0, .int 0, .int 0, .int 0, .null])), (c1, .inr (3, [.int 0, .ref em, .int 0]))] := hD
              have hK : va_K D vwCl [] s := hK
              refine W.widen (k := 1) (n := 19) (Nat.le_refl _) (Nat.le_refl _) ?_
              refine W.eq (g2 := F0 m 119 ls [.int 0, .ref q_8, .ref q_8]) rfl ?_
              refine lv_iload_n hx hb dX3_car_119 rfl (lv_at hl 2 rfl) ?_
              refine lv_iload_n hx hb dX3_car_120 rfl (lv_at hl 3 rfl) ?_
              refine lv_iload_n hx hb dX3_car_121 rfl (lv_at hl 4 rfl) ?_
              refine lv_aload_n hx hb dX3_car_122 rfl (lv_at hl 1 rfl) ?_
              refine va_get (D := D) (ci := 7) (v := .int 9) (C := RX3) (T := TX3) (N := 12) hx hb hts hiRX3 hown hK hP 0 rfl rfl 3 (by decide) (hts (.fieldLink RX3 26 "Towerliftry" "top" "I") (by decide +kernel)) (fun _ h9 => h9) rfl dX3_car_123 ?_
              have hPc := hP.sub (ws' := [(q_8, .inr (4, [.int 0, .int 0, .int 0, .int 0, .int 0, .int 0, .int 0, .int 0, .int 0, .int 0, .int 0, .int 0, .int 0, .int 0, .int 0, .int 0, .int 0, .int 0, .null]))]) [1] rfl
              have hDc := hD.sub (ws' := [(q_8, .inr (4, [.int 0, .int 0, .int 0, .int 0, .int 0, .int 0, .int 0, .int 0, .int 0, .int 0, .int 0, .int 0, .int 0, .int 0, .int 0, .int 0, .int 0, .int 0, .null]))]) [1] (by decide) rfl
              have hKc := hK.sub (tys' := []) [] rfl
              have hFc := va_free (wc := [(q_8, .inr (4, [.int 0, .int 0, .int 0, .int 0, .int 0, .int 0, .int 0, .int 0, .int 0, .int 0, .int 0, .int 0, .int 0, .int 0, .int 0, .int 0, .int 0, .int 0, .null]))]) hD hS hA [1] rfl
              refine va_callv (va_runI (As := [.int 0, .int p0, .int p1, .int p2, .int 9]) (rest := [.ref q_8]) ⟨hx, hb, hml, hown, hts⟩ (c_X0_init l hst em kw kb D q_8 0 p0 p1 p2 9 _) (cwI 5 hts gX3_car_X0_init rfl rfl rfl (hts (.initialized RX0) (by decide +kernel)) (hts (.methodLink RX3 81 yX0_init) (by decide +kernel)) (hts (.instanceMethod yX0_init) (by decide +kernel)) rfl (by decide +kernel) ⟨(Nat.le_of_ble_eq_true rfl), (Nat.le_of_ble_eq_true rfl)⟩) (tw_preS hF hS hFc hPc hKc hDc) rfl rfl hl.1 rfl (lv_room (Nat.le_of_ble_eq_true rfl)) dX3_car_126 ⟨(Nat.le_of_ble_eq_true rfl), (Nat.le_of_ble_eq_true rfl)⟩) hS (fun q _ h => hFc q h) hFc (fun u t H locs ht hvm hw hB hz1 hk1 hS => ?_)
              subst hw
              obtain ⟨hP, hD, hK⟩ := tw_join (wr := [(x, .inr (7, [.ref c1, .ref ps1, .ref lg, .int 9, .int 99, .int 0, .int 0, .int 0, .int ((-1)), .int 0, .int 0, .long 0])), (c1, .inr (3, [.int 0, .ref em, .int 0]))]) hP hD hK [1] [0, 2] rfl rfl (by decide) (by decide) hk1 hFc ht hvm hB
              have hP : va_P D vwCl [(x, .inr (7, [.ref c1, .ref ps1, .ref lg, .int 9, .int 99, .int 0, .int 0, .int 0, .int ((-1)), .int 0, .int 0, .long 0])), (c1, .inr (3, [.int 0, .ref em, .int 0])), (q_8, .inr (4, [.int 0, .int p0, .int p1, .int p2, .int 0, .int 0, .int 9, .int (((((1 : Int32) <<< ((9 + (1 : Int32)) &&& 31)) - (1 : Int32)) &&& ((((1 : Int32) <<< (0 &&& 31)) - (1 : Int32)) ^^^ ((-1) : Int32))) &&& (((1 : Int32) <<< (0 &&& 31)) ||| ((((1 : Int32) <<< (p2 &&& 31)) - (1 : Int32)) ^^^ ((-1) : Int32)))), .int 0, .int 0, .int 0, .int ((-1)), .int 0, .int 0, .int 0, .int 0, .int ((-1)), .int 0, .null]))] _ := hP
              have hD : va_D A [(x, .inr (7, [.ref c1, .ref ps1, .ref lg, .int 9, .int 99, .int 0, .int 0, .int 0, .int ((-1)), .int 0, .int 0, .long 0])), (c1, .inr (3, [.int 0, .ref em, .int 0])), (q_8, .inr (4, [.int 0, .int p0, .int p1, .int p2, .int 0, .int 0, .int 9, .int (((((1 : Int32) <<< ((9 + (1 : Int32)) &&& 31)) - (1 : Int32)) &&& ((((1 : Int32) <<< (0 &&& 31)) - (1 : Int32)) ^^^ ((-1) : Int32))) &&& (((1 : Int32) <<< (0 &&& 31)) ||| ((((1 : Int32) <<< (p2 &&& 31)) - (1 : Int32)) ^^^ ((-1) : Int32)))), .int 0, .int 0, .int 0, .int ((-1)), .int 0, .int 0, .int 0, .int 0, .int ((-1)), .int 0, .null]))] := hD
              have hK : va_K D vwCl [] s := hK
              refine W.widen (k := 1) (n := 19) (Nat.le_refl _) (Nat.le_refl _) ?_
              refine W.eq (g2 := F0 m 129 ls [.ref q_8]) rfl ?_
              refine lv_astore (lv' := [(5, .ref q_8), (4, .null), (0, .ref x), (1, .int p0), (2, .int p1), (3, .int p2)]) hx hb dX3_car_129 hl (by decide) rfl (fun ls hl => ?_)
              refine lv_aloadN hx hb dX3_car_131 (lv_at hl 1 rfl) ?_
              refine lv_ifnullN (tgt := 143) hx hb dX3_car_133 (by decide) ?_
              refine lv_aload_n hx hb dX3_car_143 rfl (lv_at hl 2 rfl) ?_
              refine va_get (D := D) (ci := 7) (v := .ref c1) (C := RX3) (T := TX3) (N := 12) hx hb hts hiRX3 hown hK hP 0 rfl rfl 0 (by decide) (hts (.fieldLink RX3 10 "Towerliftry" "cars" "Ljava/util/ArrayList;") (by decide +kernel)) (fun _ h9 => h9) rfl dX3_car_144 ?_
              refine lv_aload hx hb dX3_car_147 (lv_at hl 0 rfl) ?_
              have hPc := hP.sub (ws' := [(c1, .inr (3, [.int 0, .ref em, .int 0])), (q_8, .inr (4, [.int 0, .int p0, .int p1, .int p2, .int 0, .int 0, .int 9, .int (((((1 : Int32) <<< ((9 + (1 : Int32)) &&& 31)) - (1 : Int32)) &&& ((((1 : Int32) <<< (0 &&& 31)) - (1 : Int32)) ^^^ ((-1) : Int32))) &&& (((1 : Int32) <<< (0 &&& 31)) ||| ((((1 : Int32) <<< (p2 &&& 31)) - (1 : Int32)) ^^^ ((-1) : Int32)))), .int 0, .int 0, .int 0, .int ((-1)), .int 0, .int 0, .int 0, .int 0, .int ((-1)), .int 0, .null]))]) [1, 2] rfl
              have hDc := hD.sub (ws' := [(c1, .inr (3, [.int 0, .ref em, .int 0])), (q_8, .inr (4, [.int 0, .int p0, .int p1, .int p2, .int 0, .int 0, .int 9, .int (((((1 : Int32) <<< ((9 + (1 : Int32)) &&& 31)) - (1 : Int32)) &&& ((((1 : Int32) <<< (0 &&& 31)) - (1 : Int32)) ^^^ ((-1) : Int32))) &&& (((1 : Int32) <<< (0 &&& 31)) ||| ((((1 : Int32) <<< (p2 &&& 31)) - (1 : Int32)) ^^^ ((-1) : Int32)))), .int 0, .int 0, .int 0, .int ((-1)), .int 0, .int 0, .int 0, .int 0, .int ((-1)), .int 0, .null]))]) [1, 2] (by decide) rfl
              have hKc := hK.sub (tys' := []) [] rfl
              have hFc := va_free (wc := [(c1, .inr (3, [.int 0, .ref em, .int 0])), (q_8, .inr (4, [.int 0, .int p0, .int p1, .int p2, .int 0, .int 0, .int 9, .int (((((1 : Int32) <<< ((9 + (1 : Int32)) &&& 31)) - (1 : Int32)) &&& ((((1 : Int32) <<< (0 &&& 31)) - (1 : Int32)) ^^^ ((-1) : Int32))) &&& (((1 : Int32) <<< (0 &&& 31)) ||| ((((1 : Int32) <<< (p2 &&& 31)) - (1 : Int32)) ^^^ ((-1) : Int32)))), .int 0, .int 0, .int 0, .int ((-1)), .int 0, .int 0, .int 0, .int 0, .int ((-1)), .int 0, .null]))]) hD hS hA [1, 2] rfl
              refine va_calli (va_runV (As := [.ref q_8]) (rest := []) ⟨hx, hb, hml, hown, hts⟩ (c_add_RX0 l hst em kw kb D c1 q_8 0 p0 p1 p2 0 0 9 (((((1 : Int32) <<< ((9 + (1 : Int32)) &&& 31)) - (1 : Int32)) &&& ((((1 : Int32) <<< (0 &&& 31)) - (1 : Int32)) ^^^ ((-1) : Int32))) &&& (((1 : Int32) <<< (0 &&& 31)) ||| ((((1 : Int32) <<< (p2 &&& 31)) - (1 : Int32)) ^^^ ((-1) : Int32)))) 0 0 0 ((-1)) 0 0 0 0 ((-1)) 0 _) (cwV 1 hts gX3_car_Jx4a65c_add_9ea2d rfl rfl rfl (by decide +kernel) ⟨(Nat.le_of_ble_eq_true rfl), (Nat.le_of_ble_eq_true rfl)⟩) (tw_preV hF hS hFc hPc hKc hDc (va_recv hKc hPc (ci := 3) (q0 := 0) rfl rfl)) rfl rfl hl.1 rfl (lv_room (Nat.le_of_ble_eq_true rfl)) dX3_car_149 ⟨(Nat.le_of_ble_eq_true rfl), (Nat.le_of_ble_eq_true rfl)⟩) hS (fun q _ h => hFc q h) hFc (fun r u t H locs ht hvm hw hB hz1 hk1 hS => ?_)
              obtain ⟨q_9, rfl, rfl⟩ := hw
              obtain ⟨hP, hD, hK⟩ := tw_join (wr := [(x, .inr (7, [.ref c1, .ref ps1, .ref lg, .int 9, .int 99, .int 0, .int 0, .int 0, .int ((-1)), .int 0, .int 0, .long 0]))]) hP hD hK [1, 2] [0] rfl rfl (by decide) (by decide) hk1 hFc ht hvm hB
              have hP : va_P D vwCl [(x, .inr (7, [.ref c1, .ref ps1, .ref lg, .int 9, .int 99, .int 0, .int 0, .int 0, .int ((-1)), .int 0, .int 0, .long 0])), (c1, .inr (3, [.int 1, .ref q_9, .int 1])), (q_8, .inr (4, [.int 0, .int p0, .int p1, .int p2, .int 0, .int 0, .int 9, .int ((((((1 : Int32) <<< ((9 + (1 : Int32)) &&& 31)) - (1 : Int32)) &&& ((((1 : Int32) <<< (0 &&& 31)) - (1 : Int32)) ^^^ ((-1) : Int32))) &&& (((1 : Int32) <<< (0 &&& 31)) ||| ((((1 : Int32) <<< (p2 &&& 31)) - (1 : Int32)) ^^^ ((-1) : Int32))))), .int 0, .int 0, .int 0, .int ((-1)), .int 0, .int 0, .int 0, .int 0, .int ((-1)), .int 0, .null]))] _ := hP
              have hD : va_D A [(x, .inr (7, [.ref c1, .ref ps1, .ref lg, .int 9, .int 99, .int 0, .int 0, .int 0, .int ((-1)), .int 0, .int 0, .long 0])), (c1, .inr (3, [.int 1, .ref q_9, .int 1])), (q_8, .inr (4, [.int 0, .int p0, .int p1, .int p2, .int 0, .int 0, .int 9, .int ((((((1 : Int32) <<< ((9 + (1 : Int32)) &&& 31)) - (1 : Int32)) &&& ((((1 : Int32) <<< (0 &&& 31)) - (1 : Int32)) ^^^ ((-1) : Int32))) &&& (((1 : Int32) <<< (0 &&& 31)) ||| ((((1 : Int32) <<< (p2 &&& 31)) - (1 : Int32)) ^^^ ((-1) : Int32))))), .int 0, .int 0, .int 0, .int ((-1)), .int 0, .int 0, .int 0, .int 0, .int ((-1)), .int 0, .null]))] := hD
              have hK : va_K D vwCl [] s := hK
              refine W.widen (k := 2) (n := 29) (Nat.le_refl _) (Nat.le_refl _) ?_
              refine W.eq (g2 := F0 m 152 ls [.int 1]) rfl ?_
              refine lv_pop hx hb dX3_car_152 rfl ?_
              refine lv_aload hx hb dX3_car_153 (lv_at hl 0 rfl) ?_
              refine va_get (D := D) (ci := 4) (v := .int 0) (C := RX0) (T := TX0) (N := 19) hx hb hts hiRX0 hown hK hP 2 rfl rfl 0 (by decide) (hts (.fieldLink RX3 92 "Towerliftry$Car" "number" "I") (by decide +kernel)) (fun _ h9 => h9) rfl dX3_car_155 ?_
              refine W.widen (k := 2) (n := 29) (Nat.le_of_ble_eq_true rfl) (Nat.le_of_ble_eq_true rfl) ?_
              have hP9 := hP.sub (ws' := []) [] rfl
              have hD9 := hD.sub (ws' := []) [] (by decide) rfl
              have hK9 := hK.sub (tys' := []) [] rfl
              refine vx_ret ?_
              exact W.iret (v := 0) hx hb hr (fun t ht hW => ⟨⟨0, ([], []), rfl, ⟨⟨c_1, c_2, g_4, c_5, c_6, c_7⟩, rfl, rfl⟩, by rw [ht]; exact hP9, va_K.moved hW.alike hK9, hD9⟩, hS.F ht⟩) hS.2.2 dX3_car_158
            · obtain ⟨sa, hstr⟩ := tw_str hF (q := (59, "the room is odd or out of range")) (by decide)
              have hP9 := hP.sub (ws' := []) [] rfl
              have hD9 := hD.sub (ws' := []) [] (by decide) rfl
              have hK9 := hK.sub (tys' := []) [] rfl
              exact vx_throwS hx hb hst (own := RX3) (cls := "java/lang/IllegalArgumentException") (text := "the room is odd or out of range") (names := ["java/lang/RuntimeException", "java/lang/Exception"]) (ik := 37) (is := 59) (ic := 41) hown (by decide +kernel) (by decide +kernel) (hts (.classLink RX3 37 "java/lang/IllegalArgumentException") (by decide +kernel)) (hts (.initialized "java/lang/IllegalArgumentException") (by decide +kernel)) hstr (tw_hat hF (fun w h => hts w (hx41 w h)) (by decide +kernel)) (by decide +kernel) hF.1 hF.2.1 hS (hl.1.trans hml.symm) dX3_car_47 dX3_car_50 dX3_car_51 dX3_car_53 dX3_car_56 (fun x9 h9 => (htab x9 h9).elim) (Nat.le_of_ble_eq_true rfl) (Nat.le_of_ble_eq_true rfl) (Nat.le_of_ble_eq_true rfl) (Nat.le_of_ble_eq_true rfl) hlocks (tw_exc hP9 hK9 hD9 hS _ ⟨(Or.inr (Or.inr (Or.inr (Or.inr (Or.inr (⟨c_1, c_2, g_4, c_5, c_6, c_7⟩)))))), rfl⟩) hS.2.2 (Nat.le_of_ble_eq_true rfl) (Nat.le_of_ble_eq_true rfl)
set_option maxHeartbeats 4000000 in
set_option maxRecDepth 100000 in
theorem c_X3_setDispatcher (l : Launch) (hst : l.stackTraces = false) (em kw kb : Nat) (D : va_G) (x : Nat) (p0 : Int32) (c1 : Nat) (ps1 : Nat) (lg : Nat) (hn0 : narrow .char (.int p0) = .int p0 ∧ fits .char (.int p0) = true) (sz : Nat) : vx_Met l yX3_setDispatcher wsX3_setDispatcher ({ frames := 6, cells := 1, slots := 6, locals := 82 }) (va_Pc [.ref x, .int p0] (tw_Pre em kw kb D sz [(x, .inr (7, [.ref c1, .ref ps1, .ref lg, .int 9, .int 99, .int 0, .int 0, .int 0, .int ((-1)), .int 0, .int 0, .long 0]))] [])) (va_Qi (fun (r : Int32) (u : tw_U) => ((p0 = 99) ∨ (¬ p0 = 99 ∧ p0 = 122) ∨ (¬ p0 = 99 ∧ ¬ p0 = 122 ∧ p0 = 101) ∨ (¬ p0 = 99 ∧ ¬ p0 = 122 ∧ ¬ p0 = 101 ∧ p0 = 97)) ∧ r = 99 ∧ u = ([], [])) (tw_B D (va_A [(x, .inr (7, [.ref c1, .ref ps1, .ref lg, .int 9, .int 99, .int 0, .int 0, .int 0, .int ((-1)), .int 0, .int 0, .long 0]))] sz)) (va_A [(x, .inr (7, [.ref c1, .ref ps1, .ref lg, .int 9, .int 99, .int 0, .int 0, .int 0, .int ((-1)), .int 0, .int 0, .long 0]))] sz)) (vx_X (fun (u : String × tw_U) => (¬ p0 = 99 ∧ ¬ p0 = 122 ∧ ¬ p0 = 101 ∧ ¬ p0 = 97) ∧ u = ("java/lang/IllegalArgumentException", (([], []) : tw_U))) (tw_BX D (va_A [(x, .inr (7, [.ref c1, .ref ps1, .ref lg, .int 9, .int 99, .int 0, .int 0, .int 0, .int ((-1)), .int 0, .int 0, .long 0]))] sz)) (va_A [(x, .inr (7, [.ref c1, .ref ps1, .ref lg, .int 9, .int 99, .int 0, .int 0, .int 0, .int ((-1)), .int 0, .int 0, .long 0]))] sz)) 1 6 (va_A [(x, .inr (7, [.ref c1, .ref ps1, .ref lg, .int 9, .int 99, .int 0, .int 0, .int 0, .int ((-1)), .int 0, .int 0, .long 0]))] sz) := by
  refine vx_ofW (cc := cX3_setDispatcher) (maxL := 3) (ret := (some .char)) (by decide) rfl ?_
  intro p e s m args below meth c s₁ B hml htab hv
  obtain ⟨rfl, hsz, hP, hK, hD0, hF⟩ := hv
  have hx := B.exec
  have hb := B.bytes
  have hr := B.returns
  have hts := atoms_spec (ws := wsX3_setDispatcher) B.pre
  have hown : s.vm.findClass RX3 = some m.cls := findClass_of_methodNamed B.named
  have hlocks := B.notSynchronized
  have hiRX3 : ∀ w ∈ u_ws RX3 TX3 12, w ∈ wsX3_setDispatcher := by decide +kernel
  have hx41 : ∀ w ∈ (vx_atS RX3 41 "java/lang/IllegalArgumentException" ["java/lang/RuntimeException", "java/lang/Exception"]).filter goodWord, w ∈ wsX3_setDispatcher := by decide +kernel
  subst hsz
  have hD := hD0.self (sz := s.heap.size)
  generalize hAe : va_A [(x, .inr (7, [.ref c1, .ref ps1, .ref lg, .int 9, .int 99, .int 0, .int 0, .int 0, .int ((-1)), .int 0, .int 0, .long 0]))] s.heap.size = A at hD hF ⊢
  have hA : ∀ q : Nat, s.heap.size ≤ q → A q := fun q h => by rw [← hAe]; exact Or.inr h
  have hS : va_S A s.heap s.heap [] := va_S.rf
  have hP : va_P D vwCl [(x, .inr (7, [.ref c1, .ref ps1, .ref lg, .int 9, .int 99, .int 0, .int 0, .int 0, .int ((-1)), .int 0, .int 0, .long 0]))] s.heap := hP
  have hl := lv_entry ([.ref x, .int p0]) (n := 3) (Nat.le_of_ble_eq_true rfl)
  rw [lg_entry_eq]
  generalize (lg_sl ([.ref x, .int p0]) ++ List.replicate (3 - (lg_sl ([.ref x, .int p0])).length) Slot.unset).toArray = ls at hl ⊢
  have hl : lv_has ls 3 [(0, .ref x), (1, .int p0)] := hl
  refine lv_iload_n hx hb dX3_setDispatcher_0 rfl (lv_at hl 1 rfl) ?_
  refine lv_bipush (v := 99) hx hb dX3_setDispatcher_1 (by decide) ?_
  refine lv_icmp_eq (tgt := 34) hx hb dX3_setDispatcher_3 (by decide) (fun c_1 => ?_) (fun c_1 => ?_)
  · refine lv_aload_n hx hb dX3_setDispatcher_34 rfl (lv_at hl 0 rfl) ?_
    refine va_get (D := D) (ci := 7) (v := .int 99) (C := RX3) (T := TX3) (N := 12) hx hb hts hiRX3 hown hK hP 0 rfl rfl 4 (by decide) (hts (.fieldLink RX3 30 "Towerliftry" "dispatcher" "C") (by decide +kernel)) (fun _ h9 => h9) rfl dX3_setDispatcher_35 ?_
    refine lv_istore_n (lv' := [(2, .int 99), (0, .ref x), (1, .int p0)]) hx hb dX3_setDispatcher_38 rfl hl (by decide) rfl (fun ls hl => ?_)
    refine lv_aload_n hx hb dX3_setDispatcher_39 rfl (lv_at hl 1 rfl) ?_
    refine lv_iload_n hx hb dX3_setDispatcher_40 rfl (lv_at hl 2 rfl) ?_
    refine va_put (D := D) (ci := 7) (v := .int p0) (ty := .char) (C := RX3) (T := TX3) (N := 12) hx hb hts hiRX3 tyX3 tyX3_ok nmX3 hown hK hP hD hS 0 rfl rfl 4 (by decide) (hts (.fieldLink RX3 30 "Towerliftry" "dispatcher" "C") (by decide +kernel)) (fun _ h9 => h9) rfl (by decide +kernel) hn0.1 hn0.2 (Nat.le_of_ble_eq_true rfl) dX3_setDispatcher_41 (fun H locs hP hD hS => ?_)
    have hP : va_P D vwCl [(x, .inr (7, [.ref c1, .ref ps1, .ref lg, .int 9, .int p0, .int 0, .int 0, .int 0, .int ((-1)), .int 0, .int 0, .long 0]))] _ := hP
    have hD : va_D A [(x, .inr (7, [.ref c1, .ref ps1, .ref lg, .int 9, .int p0, .int 0, .int 0, .int 0, .int ((-1)), .int 0, .int 0, .long 0]))] := hD
    refine lv_iload_n hx hb dX3_setDispatcher_44 rfl (lv_at hl 0 rfl) ?_
    refine W.widen (k := 1) (n := 6) (Nat.le_of_ble_eq_true rfl) (Nat.le_of_ble_eq_true rfl) ?_
    have hP9 := hP.sub (ws' := []) [] rfl
    have hD9 := hD.sub (ws' := []) [] (by decide) rfl
    have hK9 := hK.sub (tys' := []) [] rfl
    refine vx_ret ?_
    exact W.zret (v := 99) (ty := .char) hx hb hr (by decide) (fun t ht hW => ⟨⟨99, ([], []), rfl, ⟨(Or.inl c_1), rfl, rfl⟩, by rw [ht]; exact hP9, va_K.moved hW.alike hK9, hD9⟩, hS.F ht⟩) hS.2.2 dX3_setDispatcher_45
  · refine lv_iload_n hx hb dX3_setDispatcher_6 rfl (lv_at hl 1 rfl) ?_
    refine lv_bipush (v := 122) hx hb dX3_setDispatcher_7 (by decide) ?_
    refine lv_icmp_eq (tgt := 34) hx hb dX3_setDispatcher_9 (by decide) (fun c_2 => ?_) (fun c_2 => ?_)
    · refine lv_aload_n hx hb dX3_setDispatcher_34 rfl (lv_at hl 0 rfl) ?_
      refine va_get (D := D) (ci := 7) (v := .int 99) (C := RX3) (T := TX3) (N := 12) hx hb hts hiRX3 hown hK hP 0 rfl rfl 4 (by decide) (hts (.fieldLink RX3 30 "Towerliftry" "dispatcher" "C") (by decide +kernel)) (fun _ h9 => h9) rfl dX3_setDispatcher_35 ?_
      refine lv_istore_n (lv' := [(2, .int 99), (0, .ref x), (1, .int p0)]) hx hb dX3_setDispatcher_38 rfl hl (by decide) rfl (fun ls hl => ?_)
      refine lv_aload_n hx hb dX3_setDispatcher_39 rfl (lv_at hl 1 rfl) ?_
      refine lv_iload_n hx hb dX3_setDispatcher_40 rfl (lv_at hl 2 rfl) ?_
      refine va_put (D := D) (ci := 7) (v := .int p0) (ty := .char) (C := RX3) (T := TX3) (N := 12) hx hb hts hiRX3 tyX3 tyX3_ok nmX3 hown hK hP hD hS 0 rfl rfl 4 (by decide) (hts (.fieldLink RX3 30 "Towerliftry" "dispatcher" "C") (by decide +kernel)) (fun _ h9 => h9) rfl (by decide +kernel) hn0.1 hn0.2 (Nat.le_of_ble_eq_true rfl) dX3_setDispatcher_41 (fun H locs hP hD hS => ?_)
      have hP : va_P D vwCl [(x, .inr (7, [.ref c1, .ref ps1, .ref lg, .int 9, .int p0, .int 0, .int 0, .int 0, .int ((-1)), .int 0, .int 0, .long 0]))] _ := hP
      have hD : va_D A [(x, .inr (7, [.ref c1, .ref ps1, .ref lg, .int 9, .int p0, .int 0, .int 0, .int 0, .int ((-1)), .int 0, .int 0, .long 0]))] := hD
      refine lv_iload_n hx hb dX3_setDispatcher_44 rfl (lv_at hl 0 rfl) ?_
      refine W.widen (k := 1) (n := 6) (Nat.le_of_ble_eq_true rfl) (Nat.le_of_ble_eq_true rfl) ?_
      have hP9 := hP.sub (ws' := []) [] rfl
      have hD9 := hD.sub (ws' := []) [] (by decide) rfl
      have hK9 := hK.sub (tys' := []) [] rfl
      refine vx_ret ?_
      exact W.zret (v := 99) (ty := .char) hx hb hr (by decide) (fun t ht hW => ⟨⟨99, ([], []), rfl, ⟨(Or.inr (Or.inl ⟨c_1, c_2⟩)), rfl, rfl⟩, by rw [ht]; exact hP9, va_K.moved hW.alike hK9, hD9⟩, hS.F ht⟩) hS.2.2 dX3_setDispatcher_45
    · refine lv_iload_n hx hb dX3_setDispatcher_12 rfl (lv_at hl 1 rfl) ?_
      refine lv_bipush (v := 101) hx hb dX3_setDispatcher_13 (by decide) ?_
      refine lv_icmp_eq (tgt := 34) hx hb dX3_setDispatcher_15 (by decide) (fun c_3 => ?_) (fun c_3 => ?_)
      · refine lv_aload_n hx hb dX3_setDispatcher_34 rfl (lv_at hl 0 rfl) ?_
        refine va_get (D := D) (ci := 7) (v := .int 99) (C := RX3) (T := TX3) (N := 12) hx hb hts hiRX3 hown hK hP 0 rfl rfl 4 (by decide) (hts (.fieldLink RX3 30 "Towerliftry" "dispatcher" "C") (by decide +kernel)) (fun _ h9 => h9) rfl dX3_setDispatcher_35 ?_
        refine lv_istore_n (lv' := [(2, .int 99), (0, .ref x), (1, .int p0)]) hx hb dX3_setDispatcher_38 rfl hl (by decide) rfl (fun ls hl => ?_)
        refine lv_aload_n hx hb dX3_setDispatcher_39 rfl (lv_at hl 1 rfl) ?_
        refine lv_iload_n hx hb dX3_setDispatcher_40 rfl (lv_at hl 2 rfl) ?_
        refine va_put (D := D) (ci := 7) (v := .int p0) (ty := .char) (C := RX3) (T := TX3) (N := 12) hx hb hts hiRX3 tyX3 tyX3_ok nmX3 hown hK hP hD hS 0 rfl rfl 4 (by decide) (hts (.fieldLink RX3 30 "Towerliftry" "dispatcher" "C") (by decide +kernel)) (fun _ h9 => h9) rfl (by decide +kernel) hn0.1 hn0.2 (Nat.le_of_ble_eq_true rfl) dX3_setDispatcher_41 (fun H locs hP hD hS => ?_)
        have hP : va_P D vwCl [(x, .inr (7, [.ref c1, .ref ps1, .ref lg, .int 9, .int p0, .int 0, .int 0, .int 0, .int ((-1)), .int 0, .int 0, .long 0]))] _ := hP
        have hD : va_D A [(x, .inr (7, [.ref c1, .ref ps1, .ref lg, .int 9, .int p0, .int 0, .int 0, .int 0, .int ((-1)), .int 0, .int 0, .long 0]))] := hD
        refine lv_iload_n hx hb dX3_setDispatcher_44 rfl (lv_at hl 0 rfl) ?_
        refine W.widen (k := 1) (n := 6) (Nat.le_of_ble_eq_true rfl) (Nat.le_of_ble_eq_true rfl) ?_
        have hP9 := hP.sub (ws' := []) [] rfl
        have hD9 := hD.sub (ws' := []) [] (by decide) rfl
        have hK9 := hK.sub (tys' := []) [] rfl
        refine vx_ret ?_
        exact W.zret (v := 99) (ty := .char) hx hb hr (by decide) (fun t ht hW => ⟨⟨99, ([], []), rfl, ⟨(Or.inr (Or.inr (Or.inl ⟨c_1, c_2, c_3⟩))), rfl, rfl⟩, by rw [ht]; exact hP9, va_K.moved hW.alike hK9, hD9⟩, hS.F ht⟩) hS.2.2 dX3_setDispatcher_45
      · refine lv_iload_n hx hb dX3_setDispatcher_18 rfl (lv_at hl 1 rfl) ?_
        refine lv_bipush (v := 97) hx hb dX3_setDispatcher_19 (by decide) ?_
        refine lv_icmp_eq (tgt := 34) hx hb dX3_setDispatcher_21 (by decide) (fun c_4 => ?_) (fun c_4 => ?_)
        · refine lv_aload_n hx hb dX3_setDispatcher_34 rfl (lv_at hl 0 rfl) ?_
          refine va_get (D := D) (ci := 7) (v := .int 99) (C := RX3) (T := TX3) (N := 12) hx hb hts hiRX3 hown hK hP 0 rfl rfl 4 (by decide) (hts (.fieldLink RX3 30 "Towerliftry" "dispatcher" "C") (by decide +kernel)) (fun _ h9 => h9) rfl dX3_setDispatcher_35 ?_
          refine lv_istore_n (lv' := [(2, .int 99), (0, .ref x), (1, .int p0)]) hx hb dX3_setDispatcher_38 rfl hl (by decide) rfl (fun ls hl => ?_)
          refine lv_aload_n hx hb dX3_setDispatcher_39 rfl (lv_at hl 1 rfl) ?_
          refine lv_iload_n hx hb dX3_setDispatcher_40 rfl (lv_at hl 2 rfl) ?_
          refine va_put (D := D) (ci := 7) (v := .int p0) (ty := .char) (C := RX3) (T := TX3) (N := 12) hx hb hts hiRX3 tyX3 tyX3_ok nmX3 hown hK hP hD hS 0 rfl rfl 4 (by decide) (hts (.fieldLink RX3 30 "Towerliftry" "dispatcher" "C") (by decide +kernel)) (fun _ h9 => h9) rfl (by decide +kernel) hn0.1 hn0.2 (Nat.le_of_ble_eq_true rfl) dX3_setDispatcher_41 (fun H locs hP hD hS => ?_)
          have hP : va_P D vwCl [(x, .inr (7, [.ref c1, .ref ps1, .ref lg, .int 9, .int p0, .int 0, .int 0, .int 0, .int ((-1)), .int 0, .int 0, .long 0]))] _ := hP
          have hD : va_D A [(x, .inr (7, [.ref c1, .ref ps1, .ref lg, .int 9, .int p0, .int 0, .int 0, .int 0, .int ((-1)), .int 0, .int 0, .long 0]))] := hD
          refine lv_iload_n hx hb dX3_setDispatcher_44 rfl (lv_at hl 0 rfl) ?_
          refine W.widen (k := 1) (n := 6) (Nat.le_of_ble_eq_true rfl) (Nat.le_of_ble_eq_true rfl) ?_
          have hP9 := hP.sub (ws' := []) [] rfl
          have hD9 := hD.sub (ws' := []) [] (by decide) rfl
          have hK9 := hK.sub (tys' := []) [] rfl
          refine vx_ret ?_
          exact W.zret (v := 99) (ty := .char) hx hb hr (by decide) (fun t ht hW => ⟨⟨99, ([], []), rfl, ⟨(Or.inr (Or.inr (Or.inr (⟨c_1, c_2, c_3, c_4⟩)))), rfl, rfl⟩, by rw [ht]; exact hP9, va_K.moved hW.alike hK9, hD9⟩, hS.F ht⟩) hS.2.2 dX3_setDispatcher_45
        · obtain ⟨sa, hstr⟩ := tw_str hF (q := (95, "no such dispatcher")) (by decide)
          have hP9 := hP.sub (ws' := []) [] rfl
          have hD9 := hD.sub (ws' := []) [] (by decide) rfl
          have hK9 := hK.sub (tys' := []) [] rfl
          exact vx_throwS hx hb hst (own := RX3) (cls := "java/lang/IllegalArgumentException") (text := "no such dispatcher") (names := ["java/lang/RuntimeException", "java/lang/Exception"]) (ik := 37) (is := 95) (ic := 41) hown (by decide +kernel) (by decide +kernel) (hts (.classLink RX3 37 "java/lang/IllegalArgumentException") (by decide +kernel)) (hts (.initialized "java/lang/IllegalArgumentException") (by decide +kernel)) hstr (tw_hat hF (fun w h => hts w (hx41 w h)) (by decide +kernel)) (by decide +kernel) hF.1 hF.2.1 hS (hl.1.trans hml.symm) dX3_setDispatcher_24 dX3_setDispatcher_27 dX3_setDispatcher_28 dX3_setDispatcher_30 dX3_setDispatcher_33 (fun x9 h9 => (htab x9 h9).elim) (Nat.le_of_ble_eq_true rfl) (Nat.le_of_ble_eq_true rfl) (Nat.le_of_ble_eq_true rfl) (Nat.le_of_ble_eq_true rfl) hlocks (tw_exc hP9 hK9 hD9 hS _ ⟨⟨c_1, c_2, c_3, c_4⟩, rfl⟩) hS.2.2 (Nat.le_of_ble_eq_true rfl) (Nat.le_of_ble_eq_true rfl)
set_option maxHeartbeats 4000000 in
set_option maxRecDepth 100000 in
theorem c_X3_come (l : Launch) (hst : l.stackTraces = false) (em kw kb : Nat) (D : va_G) (x : Nat) (p0 : Int32) (p1 : Int32) (p2 : Int32) (p3 : Int32) (p4 : Int32) (c1 : Nat) (ps1 : Nat) (lg : Nat) (sz : Nat) : vx_Met l yX3_come wsX3_come ({ frames := 6, cells := 2, slots := 17, locals := 101 }) (va_Pc [.ref x, .int p0, .int p1, .int p2, .int p3, .int p4] (tw_Pre em kw kb D sz [(x, .inr (7, [.ref c1, .ref ps1, .ref lg, .int 9, .int 99, .int 0, .int 0, .int 0, .int ((-1)), .int 0, .int 0, .long 0])), (ps1, .inr (3, [.int 0, .ref em, .int 0]))] [])) (va_Qi (fun (r : Int32) (u : tw_U) => (((¬ p0 < 0 ∧ ¬ 9 < p0) ∧ (¬ p1 < 0 ∧ ¬ 9 < p1) ∧ ¬ p0 = p1 ∧ ¬ p2 < 10 ∧ ¬ 200 < p2 ∧ ¬ p3 < 1 ∧ ¬ 999 < p3 ∧ 0 ≤ p4 ∧ ((p4 >>> (p1 &&& 31)) &&& (1 : Int32)) = 0 ∧ p1 ≤ p0) ∨ ((¬ p0 < 0 ∧ ¬ 9 < p0) ∧ (¬ p1 < 0 ∧ ¬ 9 < p1) ∧ ¬ p0 = p1 ∧ ¬ p2 < 10 ∧ ¬ 200 < p2 ∧ ¬ p3 < 1 ∧ ¬ 999 < p3 ∧ 0 ≤ p4 ∧ ((p4 >>> (p1 &&& 31)) &&& (1 : Int32)) = 0 ∧ ¬ p1 ≤ p0) ∨ ((¬ p0 < 0 ∧ ¬ 9 < p0) ∧ (¬ p1 < 0 ∧ ¬ 9 < p1) ∧ ¬ p0 = p1 ∧ ¬ p2 < 10 ∧ ¬ 200 < p2 ∧ ¬ p3 < 1 ∧ ¬ 999 < p3 ∧ 0 ≤ p4 ∧ ¬ ((p4 >>> (p1 &&& 31)) &&& (1 : Int32)) = 0)) ∧ r = 0 ∧ u = ([], [])) (tw_B D (va_A [(x, .inr (7, [.ref c1, .ref ps1, .ref lg, .int 9, .int 99, .int 0, .int 0, .int 0, .int ((-1)), .int 0, .int 0, .long 0])), (ps1, .inr (3, [.int 0, .ref em, .int 0]))] sz)) (va_A [(x, .inr (7, [.ref c1, .ref ps1, .ref lg, .int 9, .int 99, .int 0, .int 0, .int 0, .int ((-1)), .int 0, .int 0, .long 0])), (ps1, .inr (3, [.int 0, .ref em, .int 0]))] sz)) (vx_X (fun (u : String × tw_U) => ((((p0 < 0) ∨ (¬ p0 < 0 ∧ 9 < p0))) ∨ ((¬ p0 < 0 ∧ ¬ 9 < p0) ∧ ((p1 < 0) ∨ (¬ p1 < 0 ∧ 9 < p1))) ∨ ((¬ p0 < 0 ∧ ¬ 9 < p0) ∧ (¬ p1 < 0 ∧ ¬ 9 < p1) ∧ ¬ p0 = p1 ∧ p2 < 10) ∨ ((¬ p0 < 0 ∧ ¬ 9 < p0) ∧ (¬ p1 < 0 ∧ ¬ 9 < p1) ∧ ¬ p0 = p1 ∧ ¬ p2 < 10 ∧ 200 < p2) ∨ ((¬ p0 < 0 ∧ ¬ 9 < p0) ∧ (¬ p1 < 0 ∧ ¬ 9 < p1) ∧ ¬ p0 = p1 ∧ ¬ p2 < 10 ∧ ¬ 200 < p2 ∧ p3 < 1) ∨ ((¬ p0 < 0 ∧ ¬ 9 < p0) ∧ (¬ p1 < 0 ∧ ¬ 9 < p1) ∧ ¬ p0 = p1 ∧ ¬ p2 < 10 ∧ ¬ 200 < p2 ∧ ¬ p3 < 1 ∧ 999 < p3) ∨ ((¬ p0 < 0 ∧ ¬ 9 < p0) ∧ (¬ p1 < 0 ∧ ¬ 9 < p1) ∧ ¬ p0 = p1 ∧ ¬ p2 < 10 ∧ ¬ 200 < p2 ∧ ¬ p3 < 1 ∧ ¬ 999 < p3 ∧ ¬ 0 ≤ p4) ∨ ((¬ p0 < 0 ∧ ¬ 9 < p0) ∧ (¬ p1 < 0 ∧ ¬ 9 < p1) ∧ p0 = p1)) ∧ u = ("java/lang/IllegalArgumentException", (([], []) : tw_U))) (tw_BX D (va_A [(x, .inr (7, [.ref c1, .ref ps1, .ref lg, .int 9, .int 99, .int 0, .int 0, .int 0, .int ((-1)), .int 0, .int 0, .long 0])), (ps1, .inr (3, [.int 0, .ref em, .int 0]))] sz)) (va_A [(x, .inr (7, [.ref c1, .ref ps1, .ref lg, .int 9, .int 99, .int 0, .int 0, .int 0, .int ((-1)), .int 0, .int 0, .long 0])), (ps1, .inr (3, [.int 0, .ref em, .int 0]))] sz)) 2 17 (va_A [(x, .inr (7, [.ref c1, .ref ps1, .ref lg, .int 9, .int 99, .int 0, .int 0, .int 0, .int ((-1)), .int 0, .int 0, .long 0])), (ps1, .inr (3, [.int 0, .ref em, .int 0]))] sz) := by
  refine vx_ofW (cc := cX3_come) (maxL := 7) (ret := (some .int)) (by decide) rfl ?_
  intro p e s m args below meth c s₁ B hml htab hv
  obtain ⟨rfl, hsz, hP, hK, hD0, hF⟩ := hv
  have hx := B.exec
  have hb := B.bytes
  have hr := B.returns
  have hts := atoms_spec (ws := wsX3_come) B.pre
  have hown : s.vm.findClass RX3 = some m.cls := findClass_of_methodNamed B.named
  have hlocks := B.notSynchronized
  have hiRX3 : ∀ w ∈ u_ws RX3 TX3 12, w ∈ wsX3_come := by decide +kernel
  have hiRX2 : ∀ w ∈ u_ws RX2 TX2 7, w ∈ wsX3_come := by decide +kernel
  have hx41 : ∀ w ∈ (vx_atS RX3 41 "java/lang/IllegalArgumentException" ["java/lang/RuntimeException", "java/lang/Exception"]).filter goodWord, w ∈ wsX3_come := by decide +kernel
  subst hsz
  have hD := hD0.self (sz := s.heap.size)
  generalize hAe : va_A [(x, .inr (7, [.ref c1, .ref ps1, .ref lg, .int 9, .int 99, .int 0, .int 0, .int 0, .int ((-1)), .int 0, .int 0, .long 0])), (ps1, .inr (3, [.int 0, .ref em, .int 0]))] s.heap.size = A at hD hF ⊢
  have hA : ∀ q : Nat, s.heap.size ≤ q → A q := fun q h => by rw [← hAe]; exact Or.inr h
  have hS : va_S A s.heap s.heap [] := va_S.rf
  have hP : va_P D vwCl [(x, .inr (7, [.ref c1, .ref ps1, .ref lg, .int 9, .int 99, .int 0, .int 0, .int 0, .int ((-1)), .int 0, .int 0, .long 0])), (ps1, .inr (3, [.int 0, .ref em, .int 0]))] s.heap := hP
  have hl := lv_entry ([.ref x, .int p0, .int p1, .int p2, .int p3, .int p4]) (n := 7) (Nat.le_of_ble_eq_true rfl)
  rw [lg_entry_eq]
  generalize (lg_sl ([.ref x, .int p0, .int p1, .int p2, .int p3, .int p4]) ++ List.replicate (7 - (lg_sl ([.ref x, .int p0, .int p1, .int p2, .int p3, .int p4])).length) Slot.unset).toArray = ls at hl ⊢
  have hl : lv_has ls 7 [(0, .ref x), (1, .int p0), (2, .int p1), (3, .int p2), (4, .int p3), (5, .int p4)] := hl
  refine lv_aload_n hx hb dX3_come_0 rfl (lv_at hl 0 rfl) ?_
  refine lv_iload_n hx hb dX3_come_1 rfl (lv_at hl 1 rfl) ?_
  have hPc := hP.sub (ws' := [(x, .inr (7, [.ref c1, .ref ps1, .ref lg, .int 9, .int 99, .int 0, .int 0, .int 0, .int ((-1)), .int 0, .int 0, .long 0]))]) [0] rfl
  have hDc := hD.sub (ws' := [(x, .inr (7, [.ref c1, .ref ps1, .ref lg, .int 9, .int 99, .int 0, .int 0, .int 0, .int ((-1)), .int 0, .int 0, .long 0]))]) [0] (by decide) rfl
  have hKc := hK.sub (tys' := []) [] rfl
  have hFc := va_free (wc := [(x, .inr (7, [.ref c1, .ref ps1, .ref lg, .int 9, .int 99, .int 0, .int 0, .int 0, .int ((-1)), .int 0, .int 0, .long 0]))]) hD hS hA [0] rfl
  refine va_calli (va_runV (As := [.int p0]) (rest := []) ⟨hx, hb, hml, hown, hts⟩ (c_X3_isFloor l hst em kw kb D x p0 c1 ps1 lg _) (cwV 1 hts gX3_come_X3_isFloor rfl rfl rfl (by decide +kernel) ⟨(Nat.le_of_ble_eq_true rfl), (Nat.le_of_ble_eq_true rfl)⟩) (tw_preV hF hS hFc hPc hKc hDc (va_recv hKc hPc (ci := 7) (q0 := 0) rfl rfl)) rfl rfl hl.1 rfl (lv_room (Nat.le_of_ble_eq_true rfl)) dX3_come_2 ⟨(Nat.le_of_ble_eq_true rfl), (Nat.le_of_ble_eq_true rfl)⟩) hS (fun q _ h => hFc q h) hFc (fun r u t H locs ht hvm hw hB hz1 hk1 hS => ?_)
  rcases hw with hw | hw
  · obtain ⟨g_1, rfl, rfl⟩ := hw
    obtain ⟨hP, hD, hK⟩ := tw_join (wr := [(ps1, .inr (3, [.int 0, .ref em, .int 0]))]) hP hD hK [0] [1] rfl rfl (by decide) (by decide) hk1 hFc ht hvm hB
    have hP : va_P D vwCl [(ps1, .inr (3, [.int 0, .ref em, .int 0])), (x, .inr (7, [.ref c1, .ref ps1, .ref lg, .int 9, .int 99, .int 0, .int 0, .int 0, .int ((-1)), .int 0, .int 0, .long 0]))] _ := hP
    have hD : va_D A [(ps1, .inr (3, [.int 0, .ref em, .int 0])), (x, .inr (7, [.ref c1, .ref ps1, .ref lg, .int 9, .int 99, .int 0, .int 0, .int 0, .int ((-1)), .int 0, .int 0, .long 0]))] := hD
    have hK : va_K D vwCl [] s := hK
    refine W.widen (k := 0) (n := 0) (Nat.le_refl _) (Nat.le_refl _) ?_
    refine W.eq (g2 := F0 m 5 ls [.int 0]) rfl ?_
    refine lv_if_eq (tgt := 21) hx hb dX3_come_5 (by decide) (fun c9 => ?_) (fun c9 => absurd c9 (by decide))
    obtain ⟨sa, hstr⟩ := tw_str hF (q := (97, "no such floor, or both are the same")) (by decide)
    have hP9 := hP.sub (ws' := []) [] rfl
    have hD9 := hD.sub (ws' := []) [] (by decide) rfl
    have hK9 := hK.sub (tys' := []) [] rfl
    exact vx_throwS hx hb hst (own := RX3) (cls := "java/lang/IllegalArgumentException") (text := "no such floor, or both are the same") (names := ["java/lang/RuntimeException", "java/lang/Exception"]) (ik := 37) (is := 97) (ic := 41) hown (by decide +kernel) (by decide +kernel) (hts (.classLink RX3 37 "java/lang/IllegalArgumentException") (by decide +kernel)) (hts (.initialized "java/lang/IllegalArgumentException") (by decide +kernel)) hstr (tw_hat hF (fun w h => hts w (hx41 w h)) (by decide +kernel)) (by decide +kernel) hF.1 hF.2.1 hS (hl.1.trans hml.symm) dX3_come_21 dX3_come_24 dX3_come_25 dX3_come_27 dX3_come_30 (fun x9 h9 => (htab x9 h9).elim) (Nat.le_of_ble_eq_true rfl) (Nat.le_of_ble_eq_true rfl) (Nat.le_of_ble_eq_true rfl) (Nat.le_of_ble_eq_true rfl) hlocks (tw_exc hP9 hK9 hD9 hS _ ⟨(Or.inl g_1), rfl⟩) hS.2.2 (Nat.le_of_ble_eq_true rfl) (Nat.le_of_ble_eq_true rfl)
  · obtain ⟨g_2, rfl, rfl⟩ := hw
    obtain ⟨hP, hD, hK⟩ := tw_join (wr := [(ps1, .inr (3, [.int 0, .ref em, .int 0]))]) hP hD hK [0] [1] rfl rfl (by decide) (by decide) hk1 hFc ht hvm hB
    have hP : va_P D vwCl [(ps1, .inr (3, [.int 0, .ref em, .int 0])), (x, .inr (7, [.ref c1, .ref ps1, .ref lg, .int 9, .int 99, .int 0, .int 0, .int 0, .int ((-1)), .int 0, .int 0, .long 0]))] _ := hP
    have hD : va_D A [(ps1, .inr (3, [.int 0, .ref em, .int 0])), (x, .inr (7, [.ref c1, .ref ps1, .ref lg, .int 9, .int 99, .int 0, .int 0, .int 0, .int ((-1)), .int 0, .int 0, .long 0]))] := hD
    have hK : va_K D vwCl [] s := hK
    refine W.widen (k := 0) (n := 0) (Nat.le_refl _) (Nat.le_refl _) ?_
    refine W.eq (g2 := F0 m 5 ls [.int 1]) rfl ?_
    refine lv_if_eq (tgt := 21) hx hb dX3_come_5 (by decide) (fun c9 => absurd c9 (by decide)) (fun c9 => ?_)
    refine lv_aload_n hx hb dX3_come_8 rfl (lv_at hl 0 rfl) ?_
    refine lv_iload_n hx hb dX3_come_9 rfl (lv_at hl 2 rfl) ?_
    have hPc := hP.sub (ws' := [(x, .inr (7, [.ref c1, .ref ps1, .ref lg, .int 9, .int 99, .int 0, .int 0, .int 0, .int ((-1)), .int 0, .int 0, .long 0]))]) [1] rfl
    have hDc := hD.sub (ws' := [(x, .inr (7, [.ref c1, .ref ps1, .ref lg, .int 9, .int 99, .int 0, .int 0, .int 0, .int ((-1)), .int 0, .int 0, .long 0]))]) [1] (by decide) rfl
    have hKc := hK.sub (tys' := []) [] rfl
    have hFc := va_free (wc := [(x, .inr (7, [.ref c1, .ref ps1, .ref lg, .int 9, .int 99, .int 0, .int 0, .int 0, .int ((-1)), .int 0, .int 0, .long 0]))]) hD hS hA [1] rfl
    refine va_calli (va_runV (As := [.int p1]) (rest := []) ⟨hx, hb, hml, hown, hts⟩ (c_X3_isFloor l hst em kw kb D x p1 c1 ps1 lg _) (cwV 1 hts gX3_come_X3_isFloor rfl rfl rfl (by decide +kernel) ⟨(Nat.le_of_ble_eq_true rfl), (Nat.le_of_ble_eq_true rfl)⟩) (tw_preV hF hS hFc hPc hKc hDc (va_recv hKc hPc (ci := 7) (q0 := 0) rfl rfl)) rfl rfl hl.1 rfl (lv_room (Nat.le_of_ble_eq_true rfl)) dX3_come_10 ⟨(Nat.le_of_ble_eq_true rfl), (Nat.le_of_ble_eq_true rfl)⟩) hS (fun q _ h => hFc q h) hFc (fun r u t H locs ht hvm hw hB hz1 hk1 hS => ?_)
    rcases hw with hw | hw
    · obtain ⟨g_3, rfl, rfl⟩ := hw
      obtain ⟨hP, hD, hK⟩ := tw_join (wr := [(ps1, .inr (3, [.int 0, .ref em, .int 0]))]) hP hD hK [1] [0] rfl rfl (by decide) (by decide) hk1 hFc ht hvm hB
      have hP : va_P D vwCl [(ps1, .inr (3, [.int 0, .ref em, .int 0])), (x, .inr (7, [.ref c1, .ref ps1, .ref lg, .int 9, .int 99, .int 0, .int 0, .int 0, .int ((-1)), .int 0, .int 0, .long 0]))] _ := hP
      have hD : va_D A [(ps1, .inr (3, [.int 0, .ref em, .int 0])), (x, .inr (7, [.ref c1, .ref ps1, .ref lg, .int 9, .int 99, .int 0, .int 0, .int 0, .int ((-1)), .int 0, .int 0, .long 0]))] := hD
      have hK : va_K D vwCl [] s := hK
      refine W.widen (k := 0) (n := 0) (Nat.le_refl _) (Nat.le_refl _) ?_
      refine W.eq (g2 := F0 m 13 ls [.int 0]) rfl ?_
      refine lv_if_eq (tgt := 21) hx hb dX3_come_13 (by decide) (fun c9 => ?_) (fun c9 => absurd c9 (by decide))
      obtain ⟨sa, hstr⟩ := tw_str hF (q := (97, "no such floor, or both are the same")) (by decide)
      have hP9 := hP.sub (ws' := []) [] rfl
      have hD9 := hD.sub (ws' := []) [] (by decide) rfl
      have hK9 := hK.sub (tys' := []) [] rfl
      exact vx_throwS hx hb hst (own := RX3) (cls := "java/lang/IllegalArgumentException") (text := "no such floor, or both are the same") (names := ["java/lang/RuntimeException", "java/lang/Exception"]) (ik := 37) (is := 97) (ic := 41) hown (by decide +kernel) (by decide +kernel) (hts (.classLink RX3 37 "java/lang/IllegalArgumentException") (by decide +kernel)) (hts (.initialized "java/lang/IllegalArgumentException") (by decide +kernel)) hstr (tw_hat hF (fun w h => hts w (hx41 w h)) (by decide +kernel)) (by decide +kernel) hF.1 hF.2.1 hS (hl.1.trans hml.symm) dX3_come_21 dX3_come_24 dX3_come_25 dX3_come_27 dX3_come_30 (fun x9 h9 => (htab x9 h9).elim) (Nat.le_of_ble_eq_true rfl) (Nat.le_of_ble_eq_true rfl) (Nat.le_of_ble_eq_true rfl) (Nat.le_of_ble_eq_true rfl) hlocks (tw_exc hP9 hK9 hD9 hS _ ⟨(Or.inr (Or.inl ⟨g_2, g_3⟩)), rfl⟩) hS.2.2 (Nat.le_of_ble_eq_true rfl) (Nat.le_of_ble_eq_true rfl)
    · obtain ⟨g_4, rfl, rfl⟩ := hw
      obtain ⟨hP, hD, hK⟩ := tw_join (wr := [(ps1, .inr (3, [.int 0, .ref em, .int 0]))]) hP hD hK [1] [0] rfl rfl (by decide) (by decide) hk1 hFc ht hvm hB
      have hP : va_P D vwCl [(ps1, .inr (3, [.int 0, .ref em, .int 0])), (x, .inr (7, [.ref c1, .ref ps1, .ref lg, .int 9, .int 99, .int 0, .int 0, .int 0, .int ((-1)), .int 0, .int 0, .long 0]))] _ := hP
      have hD : va_D A [(ps1, .inr (3, [.int 0, .ref em, .int 0])), (x, .inr (7, [.ref c1, .ref ps1, .ref lg, .int 9, .int 99, .int 0, .int 0, .int 0, .int ((-1)), .int 0, .int 0, .long 0]))] := hD
      have hK : va_K D vwCl [] s := hK
      refine W.widen (k := 0) (n := 0) (Nat.le_refl _) (Nat.le_refl _) ?_
      refine W.eq (g2 := F0 m 13 ls [.int 1]) rfl ?_
      refine lv_if_eq (tgt := 21) hx hb dX3_come_13 (by decide) (fun c9 => absurd c9 (by decide)) (fun c9 => ?_)
      refine lv_iload_n hx hb dX3_come_16 rfl (lv_at hl 1 rfl) ?_
      refine lv_iload_n hx hb dX3_come_17 rfl (lv_at hl 2 rfl) ?_
      refine lv_icmp_ne (tgt := 31) hx hb dX3_come_18 (by decide) (fun c_5 => ?_) (fun c_5 => ?_)
      · refine lv_iload_n hx hb dX3_come_31 rfl (lv_at hl 3 rfl) ?_
        refine lv_bipush (v := 10) hx hb dX3_come_32 (by decide) ?_
        refine lv_icmp_lt (tgt := 63) hx hb dX3_come_34 (by decide) (fun c_6 => ?_) (fun c_6 => ?_)
        · obtain ⟨sa, hstr⟩ := tw_str hF (q := (99, "a number is out of range")) (by decide)
          have hP9 := hP.sub (ws' := []) [] rfl
          have hD9 := hD.sub (ws' := []) [] (by decide) rfl
          have hK9 := hK.sub (tys' := []) [] rfl
          exact vx_throwS hx hb hst (own := RX3) (cls := "java/lang/IllegalArgumentException") (text := "a number is out of range") (names := ["java/lang/RuntimeException", "java/lang/Exception"]) (ik := 37) (is := 99) (ic := 41) hown (by decide +kernel) (by decide +kernel) (hts (.classLink RX3 37 "java/lang/IllegalArgumentException") (by decide +kernel)) (hts (.initialized "java/lang/IllegalArgumentException") (by decide +kernel)) hstr (tw_hat hF (fun w h => hts w (hx41 w h)) (by decide +kernel)) (by decide +kernel) hF.1 hF.2.1 hS (hl.1.trans hml.symm) dX3_come_63 dX3_come_66 dX3_come_67 dX3_come_69 dX3_come_72 (fun x9 h9 => (htab x9 h9).elim) (Nat.le_of_ble_eq_true rfl) (Nat.le_of_ble_eq_true rfl) (Nat.le_of_ble_eq_true rfl) (Nat.le_of_ble_eq_true rfl) hlocks (tw_exc hP9 hK9 hD9 hS _ ⟨(Or.inr (Or.inr (Or.inl ⟨g_2, g_4, c_5, c_6⟩))), rfl⟩) hS.2.2 (Nat.le_of_ble_eq_true rfl) (Nat.le_of_ble_eq_true rfl)
        · refine lv_iload_n hx hb dX3_come_37 rfl (lv_at hl 3 rfl) ?_
          refine lv_sipush (v := 200) hx hb dX3_come_38 (by decide) ?_
          refine lv_icmp_gt (tgt := 63) hx hb dX3_come_41 (by decide) (fun c_7 => ?_) (fun c_7 => ?_)
          · obtain ⟨sa, hstr⟩ := tw_str hF (q := (99, "a number is out of range")) (by decide)
            have hP9 := hP.sub (ws' := []) [] rfl
            have hD9 := hD.sub (ws' := []) [] (by decide) rfl
            have hK9 := hK.sub (tys' := []) [] rfl
            exact vx_throwS hx hb hst (own := RX3) (cls := "java/lang/IllegalArgumentException") (text := "a number is out of range") (names := ["java/lang/RuntimeException", "java/lang/Exception"]) (ik := 37) (is := 99) (ic := 41) hown (by decide +kernel) (by decide +kernel) (hts (.classLink RX3 37 "java/lang/IllegalArgumentException") (by decide +kernel)) (hts (.initialized "java/lang/IllegalArgumentException") (by decide +kernel)) hstr (tw_hat hF (fun w h => hts w (hx41 w h)) (by decide +kernel)) (by decide +kernel) hF.1 hF.2.1 hS (hl.1.trans hml.symm) dX3_come_63 dX3_come_66 dX3_come_67 dX3_come_69 dX3_come_72 (fun x9 h9 => (htab x9 h9).elim) (Nat.le_of_ble_eq_true rfl) (Nat.le_of_ble_eq_true rfl) (Nat.le_of_ble_eq_true rfl) (Nat.le_of_ble_eq_true rfl) hlocks (tw_exc hP9 hK9 hD9 hS _ ⟨(Or.inr (Or.inr (Or.inr (Or.inl ⟨g_2, g_4, c_5, c_6, c_7⟩)))), rfl⟩) hS.2.2 (Nat.le_of_ble_eq_true rfl) (Nat.le_of_ble_eq_true rfl)
          · refine lv_iload hx hb dX3_come_44 (lv_at hl 4 rfl) ?_
            refine lv_iconst (v := 1) hx hb dX3_come_46 (by decide) ?_
            refine lv_icmp_lt (tgt := 63) hx hb dX3_come_47 (by decide) (fun c_8 => ?_) (fun c_8 => ?_)
            · obtain ⟨sa, hstr⟩ := tw_str hF (q := (99, "a number is out of range")) (by decide)
              have hP9 := hP.sub (ws' := []) [] rfl
              have hD9 := hD.sub (ws' := []) [] (by decide) rfl
              have hK9 := hK.sub (tys' := []) [] rfl
              exact vx_throwS hx hb hst (own := RX3) (cls := "java/lang/IllegalArgumentException") (text := "a number is out of range") (names := ["java/lang/RuntimeException", "java/lang/Exception"]) (ik := 37) (is := 99) (ic := 41) hown (by decide +kernel) (by decide +kernel) (hts (.classLink RX3 37 "java/lang/IllegalArgumentException") (by decide +kernel)) (hts (.initialized "java/lang/IllegalArgumentException") (by decide +kernel)) hstr (tw_hat hF (fun w h => hts w (hx41 w h)) (by decide +kernel)) (by decide +kernel) hF.1 hF.2.1 hS (hl.1.trans hml.symm) dX3_come_63 dX3_come_66 dX3_come_67 dX3_come_69 dX3_come_72 (fun x9 h9 => (htab x9 h9).elim) (Nat.le_of_ble_eq_true rfl) (Nat.le_of_ble_eq_true rfl) (Nat.le_of_ble_eq_true rfl) (Nat.le_of_ble_eq_true rfl) hlocks (tw_exc hP9 hK9 hD9 hS _ ⟨(Or.inr (Or.inr (Or.inr (Or.inr (Or.inl ⟨g_2, g_4, c_5, c_6, c_7, c_8⟩))))), rfl⟩) hS.2.2 (Nat.le_of_ble_eq_true rfl) (Nat.le_of_ble_eq_true rfl)
            · refine lv_iload hx hb dX3_come_50 (lv_at hl 4 rfl) ?_
              refine lv_sipush (v := 999) hx hb dX3_come_52 (by decide) ?_
              refine lv_icmp_gt (tgt := 63) hx hb dX3_come_55 (by decide) (fun c_9 => ?_) (fun c_9 => ?_)
              · obtain ⟨sa, hstr⟩ := tw_str hF (q := (99, "a number is out of range")) (by decide)
                have hP9 := hP.sub (ws' := []) [] rfl
                have hD9 := hD.sub (ws' := []) [] (by decide) rfl
                have hK9 := hK.sub (tys' := []) [] rfl
                exact vx_throwS hx hb hst (own := RX3) (cls := "java/lang/IllegalArgumentException") (text := "a number is out of range") (names := ["java/lang/RuntimeException", "java/lang/Exception"]) (ik := 37) (is := 99) (ic := 41) hown (by decide +kernel) (by decide +kernel) (hts (.classLink RX3 37 "java/lang/IllegalArgumentException") (by decide +kernel)) (hts (.initialized "java/lang/IllegalArgumentException") (by decide +kernel)) hstr (tw_hat hF (fun w h => hts w (hx41 w h)) (by decide +kernel)) (by decide +kernel) hF.1 hF.2.1 hS (hl.1.trans hml.symm) dX3_come_63 dX3_come_66 dX3_come_67 dX3_come_69 dX3_come_72 (fun x9 h9 => (htab x9 h9).elim) (Nat.le_of_ble_eq_true rfl) (Nat.le_of_ble_eq_true rfl) (Nat.le_of_ble_eq_true rfl) (Nat.le_of_ble_eq_true rfl) hlocks (tw_exc hP9 hK9 hD9 hS _ ⟨(Or.inr (Or.inr (Or.inr (Or.inr (Or.inr (Or.inl ⟨g_2, g_4, c_5, c_6, c_7, c_8, c_9⟩)))))), rfl⟩) hS.2.2 (Nat.le_of_ble_eq_true rfl) (Nat.le_of_ble_eq_true rfl)
              · refine lv_iload hx hb dX3_come_58 (lv_at hl 5 rfl) ?_
                refine lv_if_ge (tgt := 73) hx hb dX3_come_60 (by decide) (fun c_10 => ?_) (fun c_10 => ?_)
                · refine lv_aload_n hx hb dX3_come_73 rfl (lv_at hl 0 rfl) ?_
                  refine va_get (D := D) (ci := 7) (v := .ref ps1) (C := RX3) (T := TX3) (N := 12) hx hb hts hiRX3 hown hK hP 1 rfl rfl 1 (by decide) (hts (.fieldLink RX3 16 "Towerliftry" "persons" "Ljava/util/ArrayList;") (by decide +kernel)) (fun _ h9 => h9) rfl dX3_come_74 ?_
                  have hPc := hP.sub (ws' := [(ps1, .inr (3, [.int 0, .ref em, .int 0]))]) [0] rfl
                  have hDc := hD.sub (ws' := [(ps1, .inr (3, [.int 0, .ref em, .int 0]))]) [0] (by decide) rfl
                  have hKc := hK.sub (tys' := []) [] rfl
                  have hFc := va_free (wc := [(ps1, .inr (3, [.int 0, .ref em, .int 0]))]) hD hS hA [0] rfl
                  refine va_calli (va_runV (As := []) (rest := []) ⟨hx, hb, hml, hown, hts⟩ (c_size0 l hst em kw kb D ps1 em _) (cwV 0 hts gX3_come_Jx4a65c_size_8abf5 rfl rfl rfl (by decide +kernel) ⟨(Nat.le_of_ble_eq_true rfl), (Nat.le_of_ble_eq_true rfl)⟩) (tw_preV hF hS hFc hPc hKc hDc (va_recv hKc hPc (ci := 3) (q0 := 0) rfl rfl)) rfl rfl hl.1 rfl (lv_room (Nat.le_of_ble_eq_true rfl)) dX3_come_77 ⟨(Nat.le_of_ble_eq_true rfl), (Nat.le_of_ble_eq_true rfl)⟩) hS (fun q _ h => hFc q h) hFc (fun r u t H locs ht hvm hw hB hz1 hk1 hS => ?_)
                  obtain ⟨rfl, rfl⟩ := hw
                  obtain ⟨hP, hD, hK⟩ := tw_join (wr := [(x, .inr (7, [.ref c1, .ref ps1, .ref lg, .int 9, .int 99, .int 0, .int 0, .int 0, .int ((-1)), .int 0, .int 0, .long 0]))]) hP hD hK [0] [1] rfl rfl (by decide) (by decide) hk1 hFc ht hvm hB
                  have hP : va_P D vwCl [(x, .inr (7, [.ref c1, .ref ps1, .ref lg, .int 9, .int 99, .int 0, .int 0, .int 0, .int ((-1)), .int 0, .int 0, .long 0])), (ps1, .inr (3, [.int 0, .ref em, .int 0]))] _ := hP
                  have hD : va_D A [(x, .inr (7, [.ref c1, .ref ps1, .ref lg, .int 9, .int 99, .int 0, .int 0, .int 0, .int ((-1)), .int 0, .int 0, .long 0])), (ps1, .inr (3, [.int 0, .ref em, .int 0]))] := hD
                  have hK : va_K D vwCl [] s := hK
                  refine W.widen (k := 0) (n := 0) (Nat.le_refl _) (Nat.le_refl _) ?_
                  refine W.eq (g2 := F0 m 80 ls [.int 0]) rfl ?_
                  refine lv_bipush (v := 60) hx hb dX3_come_80 (by decide) ?_
                  refine lv_icmp_lt (tgt := 95) hx hb dX3_come_82 (by decide) (fun c9 => ?_) (fun c9 => absurd c9 (by decide))
                  refine va_new (ci := 6) (fs := [.int 0, .int 0, .int 0, .int 0, .int 0, .int 0, .int 0]) (C := RX2) (T := TX2) (N := 7) hx hb hts hiRX2 tyX2 tyX2_ok hown (hts (.classLink RX3 103 RX2) (by decide +kernel)) (hts (.instantiable RX2 7) (by decide +kernel)) (hts (.initialized RX2) (by decide +kernel)) hK hP hD hS hA rfl (by decide +kernel) (Nat.le_of_ble_eq_true rfl) (Nat.le_of_ble_eq_true rfl) dX3_come_95 (fun q_11 H hP hD hS => ?_)
                  have hP : va_P D vwCl [(x, .inr (7, [.ref c1, .ref ps1, .ref lg, .int 9, .int 99, .int 0, .int 0, .int 0, .int ((-1)), .int 0, .int 0, .long 0])), (ps1, .inr (3, [.int 0, .ref em, .int 0])), (q_11, .inr (6, [.int 0, .int 0, .int 0, .int 0, .int 0, .int 0, .int 0]))] _ := hP
                  have hD : va_D A [(x, .inr (7, [.ref c1, .ref ps1, .ref lg, .int 9, .int 99, .int 0, .int 0, .int 0, .int ((-1)), .int 0, .int 0, .long 0])), (ps1, .inr (3, [.int 0, .ref em, .int 0])), (q_11, .inr (6, [.int 0, .int 0, .int 0, .int 0, .int 0, .int 0, .int 0]))] := hD
                  refine W.widen (k := 1) (n := 7) (Nat.le_refl _) (Nat.le_refl _) ?_
                  refine lv_dup hx hb dX3_come_98 rfl ?_
                  refine lv_iload_n hx hb dX3_come_99 rfl (lv_at hl 1 rfl) ?_
                  refine lv_iload_n hx hb dX3_come_100 rfl (lv_at hl 2 rfl) ?_
                  refine lv_iload_n hx hb dX3_come_101 rfl (lv_at hl 3 rfl) ?_
                  refine lv_iload hx hb dX3_come_102 (lv_at hl 4 rfl) ?_
                  have hPc := hP.sub (ws' := [(q_11, .inr (6, [.int 0, .int 0, .int 0, .int 0, .int 0, .int 0, .int 0]))]) [2] rfl
                  have hDc := hD.sub (ws' := [(q_11, .inr (6, [.int 0, .int 0, .int 0, .int 0, .int 0, .int 0, .int 0]))]) [2] (by decide) rfl
                  have hKc := hK.sub (tys' := []) [] rfl
                  have hFc := va_free (wc := [(q_11, .inr (6, [.int 0, .int 0, .int 0, .int 0, .int 0, .int 0, .int 0]))]) hD hS hA [2] rfl
                  refine va_callv (va_runI (As := [.int p0, .int p1, .int p2, .int p3]) (rest := [.ref q_11]) ⟨hx, hb, hml, hown, hts⟩ (c_X2_init l hst em kw kb D q_11 p0 p1 p2 p3 _) (cwI 4 hts gX3_come_X2_init rfl rfl rfl (hts (.initialized RX2) (by decide +kernel)) (hts (.methodLink RX3 105 yX2_init) (by decide +kernel)) (hts (.instanceMethod yX2_init) (by decide +kernel)) rfl (by decide +kernel) ⟨(Nat.le_of_ble_eq_true rfl), (Nat.le_of_ble_eq_true rfl)⟩) (tw_preS hF hS hFc hPc hKc hDc) rfl rfl hl.1 rfl (lv_room (Nat.le_of_ble_eq_true rfl)) dX3_come_104 ⟨(Nat.le_of_ble_eq_true rfl), (Nat.le_of_ble_eq_true rfl)⟩) hS (fun q _ h => hFc q h) hFc (fun u t H locs ht hvm hw hB hz1 hk1 hS => ?_)
                  subst hw
                  obtain ⟨hP, hD, hK⟩ := tw_join (wr := [(x, .inr (7, [.ref c1, .ref ps1, .ref lg, .int 9, .int 99, .int 0, .int 0, .int 0, .int ((-1)), .int 0, .int 0, .long 0])), (ps1, .inr (3, [.int 0, .ref em, .int 0]))]) hP hD hK [2] [0, 1] rfl rfl (by decide) (by decide) hk1 hFc ht hvm hB
                  have hP : va_P D vwCl [(x, .inr (7, [.ref c1, .ref ps1, .ref lg, .int 9, .int 99, .int 0, .int 0, .int 0, .int ((-1)), .int 0, .int 0, .long 0])), (ps1, .inr (3, [.int 0, .ref em, .int 0])), (q_11, .inr (6, [.int p1, .int p2, .int p3, .int p0, .int 0, .int 0, .int 119]))] _ := hP
                  have hD : va_D A [(x, .inr (7, [.ref c1, .ref ps1, .ref lg, .int 9, .int 99, .int 0, .int 0, .int 0, .int ((-1)), .int 0, .int 0, .long 0])), (ps1, .inr (3, [.int 0, .ref em, .int 0])), (q_11, .inr (6, [.int p1, .int p2, .int p3, .int p0, .int 0, .int 0, .int 119]))] := hD
                  have hK : va_K D vwCl [] s := hK
                  refine W.widen (k := 1) (n := 7) (Nat.le_refl _) (Nat.le_refl _) ?_
                  refine W.eq (g2 := F0 m 107 ls [.ref q_11]) rfl ?_
                  refine lv_astore (lv' := [(6, .ref q_11), (0, .ref x), (1, .int p0), (2, .int p1), (3, .int p2), (4, .int p3), (5, .int p4)]) hx hb dX3_come_107 hl (by decide) rfl (fun ls hl => ?_)
                  refine lv_aload_n hx hb dX3_come_109 rfl (lv_at hl 1 rfl) ?_
                  refine va_get (D := D) (ci := 7) (v := .ref ps1) (C := RX3) (T := TX3) (N := 12) hx hb hts hiRX3 hown hK hP 0 rfl rfl 1 (by decide) (hts (.fieldLink RX3 16 "Towerliftry" "persons" "Ljava/util/ArrayList;") (by decide +kernel)) (fun _ h9 => h9) rfl dX3_come_110 ?_
                  refine lv_aload hx hb dX3_come_113 (lv_at hl 0 rfl) ?_
                  have hPc := hP.sub (ws' := [(ps1, .inr (3, [.int 0, .ref em, .int 0])), (q_11, .inr (6, [.int p1, .int p2, .int p3, .int p0, .int 0, .int 0, .int 119]))]) [1, 2] rfl
                  have hDc := hD.sub (ws' := [(ps1, .inr (3, [.int 0, .ref em, .int 0])), (q_11, .inr (6, [.int p1, .int p2, .int p3, .int p0, .int 0, .int 0, .int 119]))]) [1, 2] (by decide) rfl
                  have hKc := hK.sub (tys' := []) [] rfl
                  have hFc := va_free (wc := [(ps1, .inr (3, [.int 0, .ref em, .int 0])), (q_11, .inr (6, [.int p1, .int p2, .int p3, .int p0, .int 0, .int 0, .int 119]))]) hD hS hA [1, 2] rfl
                  refine va_calli (va_runV (As := [.ref q_11]) (rest := []) ⟨hx, hb, hml, hown, hts⟩ (c_add_RX2 l hst em kw kb D ps1 q_11 p1 p2 p3 p0 0 0 119 _) (cwV 1 hts gX3_come_Jx4a65c_add_9ea2d rfl rfl rfl (by decide +kernel) ⟨(Nat.le_of_ble_eq_true rfl), (Nat.le_of_ble_eq_true rfl)⟩) (tw_preV hF hS hFc hPc hKc hDc (va_recv hKc hPc (ci := 3) (q0 := 0) rfl rfl)) rfl rfl hl.1 rfl (lv_room (Nat.le_of_ble_eq_true rfl)) dX3_come_115 ⟨(Nat.le_of_ble_eq_true rfl), (Nat.le_of_ble_eq_true rfl)⟩) hS (fun q _ h => hFc q h) hFc (fun r u t H locs ht hvm hw hB hz1 hk1 hS => ?_)
                  obtain ⟨q_12, rfl, rfl⟩ := hw
                  obtain ⟨hP, hD, hK⟩ := tw_join (wr := [(x, .inr (7, [.ref c1, .ref ps1, .ref lg, .int 9, .int 99, .int 0, .int 0, .int 0, .int ((-1)), .int 0, .int 0, .long 0]))]) hP hD hK [1, 2] [0] rfl rfl (by decide) (by decide) hk1 hFc ht hvm hB
                  have hP : va_P D vwCl [(x, .inr (7, [.ref c1, .ref ps1, .ref lg, .int 9, .int 99, .int 0, .int 0, .int 0, .int ((-1)), .int 0, .int 0, .long 0])), (ps1, .inr (3, [.int 1, .ref q_12, .int 1])), (q_11, .inr (6, [.int p1, .int p2, .int p3, .int p0, .int 0, .int 0, .int 119]))] _ := hP
                  have hD : va_D A [(x, .inr (7, [.ref c1, .ref ps1, .ref lg, .int 9, .int 99, .int 0, .int 0, .int 0, .int ((-1)), .int 0, .int 0, .long 0])), (ps1, .inr (3, [.int 1, .ref q_12, .int 1])), (q_11, .inr (6, [.int p1, .int p2, .int p3, .int p0, .int 0, .int 0, .int 119]))] := hD
                  have hK : va_K D vwCl [] s := hK
                  refine W.widen (k := 2) (n := 17) (Nat.le_refl _) (Nat.le_refl _) ?_
                  refine W.eq (g2 := F0 m 118 ls [.int 1]) rfl ?_
                  refine lv_pop hx hb dX3_come_118 rfl ?_
                  refine lv_iload hx hb dX3_come_119 (lv_at hl 6 rfl) ?_
                  refine lv_iload_n hx hb dX3_come_121 rfl (lv_at hl 3 rfl) ?_
                  have hPc := hP.sub (ws' := []) [] rfl
                  have hDc := hD.sub (ws' := []) [] (by decide) rfl
                  have hKc := hK.sub (tys' := []) [] rfl
                  have hFc := va_free (wc := []) hD hS hA [] rfl
                  refine va_calli (va_runS (As := [.int p4, .int p1]) (rest := []) ⟨hx, hb, hml, hown, hts⟩ (c_X3_has l hst em kw kb D p4 p1 _) (va_cwS 2 hts gX3_come_X3_has rfl rfl rfl (by decide +kernel) ⟨(Nat.le_of_ble_eq_true rfl), (Nat.le_of_ble_eq_true rfl)⟩) (tw_preS hF hS hFc hPc hKc hDc) rfl rfl hl.1 rfl (lv_room (Nat.le_of_ble_eq_true rfl)) dX3_come_122 ⟨(Nat.le_of_ble_eq_true rfl), (Nat.le_of_ble_eq_true rfl)⟩) hS (fun q _ h => hFc q h) hFc (fun r u t H locs ht hvm hw hB hz1 hk1 hS => ?_)
                  rcases hw with hw | hw
                  · obtain ⟨g_13, rfl, rfl⟩ := hw
                    obtain ⟨hP, hD, hK⟩ := tw_join (wr := [(x, .inr (7, [.ref c1, .ref ps1, .ref lg, .int 9, .int 99, .int 0, .int 0, .int 0, .int ((-1)), .int 0, .int 0, .long 0])), (ps1, .inr (3, [.int 1, .ref q_12, .int 1])), (q_11, .inr (6, [.int p1, .int p2, .int p3, .int p0, .int 0, .int 0, .int 119]))]) hP hD hK [] [0, 1, 2] rfl rfl (by decide) (by decide) hk1 hFc ht hvm hB
                    have hP : va_P D vwCl [(x, .inr (7, [.ref c1, .ref ps1, .ref lg, .int 9, .int 99, .int 0, .int 0, .int 0, .int ((-1)), .int 0, .int 0, .long 0])), (ps1, .inr (3, [.int 1, .ref q_12, .int 1])), (q_11, .inr (6, [.int p1, .int p2, .int p3, .int p0, .int 0, .int 0, .int 119]))] _ := hP
                    have hD : va_D A [(x, .inr (7, [.ref c1, .ref ps1, .ref lg, .int 9, .int 99, .int 0, .int 0, .int 0, .int ((-1)), .int 0, .int 0, .long 0])), (ps1, .inr (3, [.int 1, .ref q_12, .int 1])), (q_11, .inr (6, [.int p1, .int p2, .int p3, .int p0, .int 0, .int 0, .int 119]))] := hD
                    have hK : va_K D vwCl [] s := hK
                    refine W.widen (k := 2) (n := 17) (Nat.le_refl _) (Nat.le_refl _) ?_
                    refine W.eq (g2 := F0 m 125 ls [.int 0]) rfl ?_
                    refine lv_if_eq (tgt := 138) hx hb dX3_come_125 (by decide) (fun c9 => ?_) (fun c9 => absurd c9 (by decide))
                    refine lv_aload_n hx hb dX3_come_138 rfl (lv_at hl 1 rfl) ?_
                    refine lv_aload hx hb dX3_come_139 (lv_at hl 0 rfl) ?_
                    have hPc := hP.sub (ws' := [(x, .inr (7, [.ref c1, .ref ps1, .ref lg, .int 9, .int 99, .int 0, .int 0, .int 0, .int ((-1)), .int 0, .int 0, .long 0])), (q_11, .inr (6, [.int p1, .int p2, .int p3, .int p0, .int 0, .int 0, .int 119]))]) [0, 2] rfl
                    have hDc := hD.sub (ws' := [(x, .inr (7, [.ref c1, .ref ps1, .ref lg, .int 9, .int 99, .int 0, .int 0, .int 0, .int ((-1)), .int 0, .int 0, .long 0])), (q_11, .inr (6, [.int p1, .int p2, .int p3, .int p0, .int 0, .int 0, .int 119]))]) [0, 2] (by decide) rfl
                    have hKc := hK.sub (tys' := []) [] rfl
                    have hFc := va_free (wc := [(x, .inr (7, [.ref c1, .ref ps1, .ref lg, .int 9, .int 99, .int 0, .int 0, .int 0, .int ((-1)), .int 0, .int 0, .long 0])), (q_11, .inr (6, [.int p1, .int p2, .int p3, .int p0, .int 0, .int 0, .int 119]))]) hD hS hA [0, 2] rfl
                    refine va_callv (va_runV (As := [.ref q_11]) (rest := []) ⟨hx, hb, hml, hown, hts⟩ (c_X3_noteWaiting l hst em kw kb D x q_11 c1 ps1 lg p1 p2 p3 p0 0 0 119 _) (cwV 1 hts gX3_come_X3_noteWaiting rfl rfl rfl (by decide +kernel) ⟨(Nat.le_of_ble_eq_true rfl), (Nat.le_of_ble_eq_true rfl)⟩) (tw_preV hF hS hFc hPc hKc hDc (va_recv hKc hPc (ci := 7) (q0 := 0) rfl rfl)) rfl rfl hl.1 rfl (lv_room (Nat.le_of_ble_eq_true rfl)) dX3_come_141 ⟨(Nat.le_of_ble_eq_true rfl), (Nat.le_of_ble_eq_true rfl)⟩) hS (fun q _ h => hFc q h) hFc (fun u t H locs ht hvm hw hB hz1 hk1 hS => ?_)
                    rcases hw with hw | hw
                    · obtain ⟨g_14, rfl⟩ := hw
                      obtain ⟨hP, hD, hK⟩ := tw_join (wr := [(ps1, .inr (3, [.int 1, .ref q_12, .int 1]))]) hP hD hK [0, 2] [1] rfl rfl (by decide) (by decide) hk1 hFc ht hvm hB
                      have hP : va_P D vwCl [(ps1, .inr (3, [.int 1, .ref q_12, .int 1])), (x, .inr (7, [.ref c1, .ref ps1, .ref lg, .int 9, .int 99, .int 0, .int 0, .int ((0 : Int32) ||| ((1 : Int32) <<< (p0 &&& 31))), .int ((-1)), .int 0, .int 0, .long 0]))] _ := hP
                      have hD : va_D A [(ps1, .inr (3, [.int 1, .ref q_12, .int 1])), (x, .inr (7, [.ref c1, .ref ps1, .ref lg, .int 9, .int 99, .int 0, .int 0, .int ((0 : Int32) ||| ((1 : Int32) <<< (p0 &&& 31))), .int ((-1)), .int 0, .int 0, .long 0]))] := hD
                      have hK : va_K D vwCl [] s := hK
                      refine W.widen (k := 2) (n := 17) (Nat.le_refl _) (Nat.le_refl _) ?_
                      refine W.eq (g2 := F0 m 144 ls []) rfl ?_
                      refine lv_aload_n hx hb dX3_come_144 rfl (lv_at hl 1 rfl) ?_
                      refine va_get (D := D) (ci := 7) (v := .ref ps1) (C := RX3) (T := TX3) (N := 12) hx hb hts hiRX3 hown hK hP 1 rfl rfl 1 (by decide) (hts (.fieldLink RX3 16 "Towerliftry" "persons" "Ljava/util/ArrayList;") (by decide +kernel)) (fun _ h9 => h9) rfl dX3_come_145 ?_
                      have hPc := hP.sub (ws' := [(ps1, .inr (3, [.int 1, .ref q_12, .int 1]))]) [0] rfl
                      have hDc := hD.sub (ws' := [(ps1, .inr (3, [.int 1, .ref q_12, .int 1]))]) [0] (by decide) rfl
                      have hKc := hK.sub (tys' := []) [] rfl
                      have hFc := va_free (wc := [(ps1, .inr (3, [.int 1, .ref q_12, .int 1]))]) hD hS hA [0] rfl
                      refine va_calli (va_runV (As := []) (rest := []) ⟨hx, hb, hml, hown, hts⟩ (c_size1 l hst em kw kb D ps1 1 q_12 _) (cwV 0 hts gX3_come_Jx4a65c_size_8abf5 rfl rfl rfl (by decide +kernel) ⟨(Nat.le_of_ble_eq_true rfl), (Nat.le_of_ble_eq_true rfl)⟩) (tw_preV hF hS hFc hPc hKc hDc (va_recv hKc hPc (ci := 3) (q0 := 0) rfl rfl)) rfl rfl hl.1 rfl (lv_room (Nat.le_of_ble_eq_true rfl)) dX3_come_148 ⟨(Nat.le_of_ble_eq_true rfl), (Nat.le_of_ble_eq_true rfl)⟩) hS (fun q _ h => hFc q h) hFc (fun r u t H locs ht hvm hw hB hz1 hk1 hS => ?_)
                      obtain ⟨rfl, rfl⟩ := hw
                      obtain ⟨hP, hD, hK⟩ := tw_join (wr := [(x, .inr (7, [.ref c1, .ref ps1, .ref lg, .int 9, .int 99, .int 0, .int 0, .int ((0 : Int32) ||| ((1 : Int32) <<< (p0 &&& 31))), .int ((-1)), .int 0, .int 0, .long 0]))]) hP hD hK [0] [1] rfl rfl (by decide) (by decide) hk1 hFc ht hvm hB
                      have hP : va_P D vwCl [(x, .inr (7, [.ref c1, .ref ps1, .ref lg, .int 9, .int 99, .int 0, .int 0, .int ((0 : Int32) ||| ((1 : Int32) <<< (p0 &&& 31))), .int ((-1)), .int 0, .int 0, .long 0])), (ps1, .inr (3, [.int 1, .ref q_12, .int 1]))] _ := hP
                      have hD : va_D A [(x, .inr (7, [.ref c1, .ref ps1, .ref lg, .int 9, .int 99, .int 0, .int 0, .int ((0 : Int32) ||| ((1 : Int32) <<< (p0 &&& 31))), .int ((-1)), .int 0, .int 0, .long 0])), (ps1, .inr (3, [.int 1, .ref q_12, .int 1]))] := hD
                      have hK : va_K D vwCl [] s := hK
                      refine W.widen (k := 2) (n := 17) (Nat.le_refl _) (Nat.le_refl _) ?_
                      refine W.eq (g2 := F0 m 151 ls [.int 1]) rfl ?_
                      refine lv_iconst (v := 1) hx hb dX3_come_151 (by decide) ?_
                      refine lv_isub hx hb dX3_come_152 ?_
                      refine lv_topi (fun z_15 ez_15 => ?_)
                      have ez_15 : z_15 = (0 : Int32) := ez_15.trans (by decide)
                      subst ez_15
                      refine W.widen (k := 2) (n := 17) (Nat.le_of_ble_eq_true rfl) (Nat.le_of_ble_eq_true rfl) ?_
                      have hP9 := hP.sub (ws' := []) [] rfl
                      have hD9 := hD.sub (ws' := []) [] (by decide) rfl
                      have hK9 := hK.sub (tys' := []) [] rfl
                      refine vx_ret ?_
                      exact W.iret (v := 0) hx hb hr (fun t ht hW => ⟨⟨0, ([], []), rfl, ⟨(Or.inl ⟨g_2, g_4, c_5, c_6, c_7, c_8, c_9, c_10, g_13, g_14⟩), rfl, rfl⟩, by rw [ht]; exact hP9, va_K.moved hW.alike hK9, hD9⟩, hS.F ht⟩) hS.2.2 dX3_come_153
                    · obtain ⟨g_16, rfl⟩ := hw
                      obtain ⟨hP, hD, hK⟩ := tw_join (wr := [(ps1, .inr (3, [.int 1, .ref q_12, .int 1]))]) hP hD hK [0, 2] [1] rfl rfl (by decide) (by decide) hk1 hFc ht hvm hB
                      have hP : va_P D vwCl [(ps1, .inr (3, [.int 1, .ref q_12, .int 1])), (x, .inr (7, [.ref c1, .ref ps1, .ref lg, .int 9, .int 99, .int 0, .int ((0 : Int32) ||| ((1 : Int32) <<< (p0 &&& 31))), .int 0, .int ((-1)), .int 0, .int 0, .long 0]))] _ := hP
                      have hD : va_D A [(ps1, .inr (3, [.int 1, .ref q_12, .int 1])), (x, .inr (7, [.ref c1, .ref ps1, .ref lg, .int 9, .int 99, .int 0, .int ((0 : Int32) ||| ((1 : Int32) <<< (p0 &&& 31))), .int 0, .int ((-1)), .int 0, .int 0, .long 0]))] := hD
                      have hK : va_K D vwCl [] s := hK
                      refine W.widen (k := 2) (n := 17) (Nat.le_refl _) (Nat.le_refl _) ?_
                      refine W.eq (g2 := F0 m 144 ls []) rfl ?_
                      refine lv_aload_n hx hb dX3_come_144 rfl (lv_at hl 1 rfl) ?_
                      refine va_get (D := D) (ci := 7) (v := .ref ps1) (C := RX3) (T := TX3) (N := 12) hx hb hts hiRX3 hown hK hP 1 rfl rfl 1 (by decide) (hts (.fieldLink RX3 16 "Towerliftry" "persons" "Ljava/util/ArrayList;") (by decide +kernel)) (fun _ h9 => h9) rfl dX3_come_145 ?_
                      have hPc := hP.sub (ws' := [(ps1, .inr (3, [.int 1, .ref q_12, .int 1]))]) [0] rfl
                      have hDc := hD.sub (ws' := [(ps1, .inr (3, [.int 1, .ref q_12, .int 1]))]) [0] (by decide) rfl
                      have hKc := hK.sub (tys' := []) [] rfl
                      have hFc := va_free (wc := [(ps1, .inr (3, [.int 1, .ref q_12, .int 1]))]) hD hS hA [0] rfl
                      refine va_calli (va_runV (As := []) (rest := []) ⟨hx, hb, hml, hown, hts⟩ (c_size1 l hst em kw kb D ps1 1 q_12 _) (cwV 0 hts gX3_come_Jx4a65c_size_8abf5 rfl rfl rfl (by decide +kernel) ⟨(Nat.le_of_ble_eq_true rfl), (Nat.le_of_ble_eq_true rfl)⟩) (tw_preV hF hS hFc hPc hKc hDc (va_recv hKc hPc (ci := 3) (q0 := 0) rfl rfl)) rfl rfl hl.1 rfl (lv_room (Nat.le_of_ble_eq_true rfl)) dX3_come_148 ⟨(Nat.le_of_ble_eq_true rfl), (Nat.le_of_ble_eq_true rfl)⟩) hS (fun q _ h => hFc q h) hFc (fun r u t H locs ht hvm hw hB hz1 hk1 hS => ?_)
                      obtain ⟨rfl, rfl⟩ := hw
                      obtain ⟨hP, hD, hK⟩ := tw_join (wr := [(x, .inr (7, [.ref c1, .ref ps1, .ref lg, .int 9, .int 99, .int 0, .int ((0 : Int32) ||| ((1 : Int32) <<< (p0 &&& 31))), .int 0, .int ((-1)), .int 0, .int 0, .long 0]))]) hP hD hK [0] [1] rfl rfl (by decide) (by decide) hk1 hFc ht hvm hB
                      have hP : va_P D vwCl [(x, .inr (7, [.ref c1, .ref ps1, .ref lg, .int 9, .int 99, .int 0, .int ((0 : Int32) ||| ((1 : Int32) <<< (p0 &&& 31))), .int 0, .int ((-1)), .int 0, .int 0, .long 0])), (ps1, .inr (3, [.int 1, .ref q_12, .int 1]))] _ := hP
                      have hD : va_D A [(x, .inr (7, [.ref c1, .ref ps1, .ref lg, .int 9, .int 99, .int 0, .int ((0 : Int32) ||| ((1 : Int32) <<< (p0 &&& 31))), .int 0, .int ((-1)), .int 0, .int 0, .long 0])), (ps1, .inr (3, [.int 1, .ref q_12, .int 1]))] := hD
                      have hK : va_K D vwCl [] s := hK
                      refine W.widen (k := 2) (n := 17) (Nat.le_refl _) (Nat.le_refl _) ?_
                      refine W.eq (g2 := F0 m 151 ls [.int 1]) rfl ?_
                      refine lv_iconst (v := 1) hx hb dX3_come_151 (by decide) ?_
                      refine lv_isub hx hb dX3_come_152 ?_
                      refine lv_topi (fun z_17 ez_17 => ?_)
                      have ez_17 : z_17 = (0 : Int32) := ez_17.trans (by decide)
                      subst ez_17
                      refine W.widen (k := 2) (n := 17) (Nat.le_of_ble_eq_true rfl) (Nat.le_of_ble_eq_true rfl) ?_
                      have hP9 := hP.sub (ws' := []) [] rfl
                      have hD9 := hD.sub (ws' := []) [] (by decide) rfl
                      have hK9 := hK.sub (tys' := []) [] rfl
                      refine vx_ret ?_
                      exact W.iret (v := 0) hx hb hr (fun t ht hW => ⟨⟨0, ([], []), rfl, ⟨(Or.inr (Or.inl ⟨g_2, g_4, c_5, c_6, c_7, c_8, c_9, c_10, g_13, g_16⟩)), rfl, rfl⟩, by rw [ht]; exact hP9, va_K.moved hW.alike hK9, hD9⟩, hS.F ht⟩) hS.2.2 dX3_come_153
                  · obtain ⟨g_18, rfl, rfl⟩ := hw
                    obtain ⟨hP, hD, hK⟩ := tw_join (wr := [(x, .inr (7, [.ref c1, .ref ps1, .ref lg, .int 9, .int 99, .int 0, .int 0, .int 0, .int ((-1)), .int 0, .int 0, .long 0])), (ps1, .inr (3, [.int 1, .ref q_12, .int 1])), (q_11, .inr (6, [.int p1, .int p2, .int p3, .int p0, .int 0, .int 0, .int 119]))]) hP hD hK [] [0, 1, 2] rfl rfl (by decide) (by decide) hk1 hFc ht hvm hB
                    have hP : va_P D vwCl [(x, .inr (7, [.ref c1, .ref ps1, .ref lg, .int 9, .int 99, .int 0, .int 0, .int 0, .int ((-1)), .int 0, .int 0, .long 0])), (ps1, .inr (3, [.int 1, .ref q_12, .int 1])), (q_11, .inr (6, [.int p1, .int p2, .int p3, .int p0, .int 0, .int 0, .int 119]))] _ := hP
                    have hD : va_D A [(x, .inr (7, [.ref c1, .ref ps1, .ref lg, .int 9, .int 99, .int 0, .int 0, .int 0, .int ((-1)), .int 0, .int 0, .long 0])), (ps1, .inr (3, [.int 1, .ref q_12, .int 1])), (q_11, .inr (6, [.int p1, .int p2, .int p3, .int p0, .int 0, .int 0, .int 119]))] := hD
                    have hK : va_K D vwCl [] s := hK
                    refine W.widen (k := 2) (n := 17) (Nat.le_refl _) (Nat.le_refl _) ?_
                    refine W.eq (g2 := F0 m 125 ls [.int 1]) rfl ?_
                    refine lv_if_eq (tgt := 138) hx hb dX3_come_125 (by decide) (fun c9 => absurd c9 (by decide)) (fun c9 => ?_)
                    refine lv_aload hx hb dX3_come_128 (lv_at hl 0 rfl) ?_
                    refine lv_bipush (v := 114) hx hb dX3_come_130 (by decide) ?_
                    refine va_put (D := D) (ci := 6) (v := .int 114) (ty := .char) (C := RX2) (T := TX2) (N := 7) hx hb hts hiRX2 tyX2 tyX2_ok nmX2 hown hK hP hD hS 2 rfl rfl 6 (by decide) (hts (.fieldLink RX3 112 "Towerliftry$Person" "state" "C") (by decide +kernel)) (fun _ h9 => h9) rfl (by decide +kernel) (by decide) (by decide) (Nat.le_of_ble_eq_true rfl) dX3_come_132 (fun H locs hP hD hS => ?_)
                    have hP : va_P D vwCl [(x, .inr (7, [.ref c1, .ref ps1, .ref lg, .int 9, .int 99, .int 0, .int 0, .int 0, .int ((-1)), .int 0, .int 0, .long 0])), (ps1, .inr (3, [.int 1, .ref q_12, .int 1])), (q_11, .inr (6, [.int p1, .int p2, .int p3, .int p0, .int 0, .int 0, .int 114]))] _ := hP
                    have hD : va_D A [(x, .inr (7, [.ref c1, .ref ps1, .ref lg, .int 9, .int 99, .int 0, .int 0, .int 0, .int ((-1)), .int 0, .int 0, .long 0])), (ps1, .inr (3, [.int 1, .ref q_12, .int 1])), (q_11, .inr (6, [.int p1, .int p2, .int p3, .int p0, .int 0, .int 0, .int 114]))] := hD
                    refine lv_goto (tgt := 144) hx hb dX3_come_135 (by decide) ?_
                    refine lv_aload_n hx hb dX3_come_144 rfl (lv_at hl 1 rfl) ?_
                    refine va_get (D := D) (ci := 7) (v := .ref ps1) (C := RX3) (T := TX3) (N := 12) hx hb hts hiRX3 hown hK hP 0 rfl rfl 1 (by decide) (hts (.fieldLink RX3 16 "Towerliftry" "persons" "Ljava/util/ArrayList;") (by decide +kernel)) (fun _ h9 => h9) rfl dX3_come_145 ?_
                    have hPc := hP.sub (ws' := [(ps1, .inr (3, [.int 1, .ref q_12, .int 1]))]) [1] rfl
                    have hDc := hD.sub (ws' := [(ps1, .inr (3, [.int 1, .ref q_12, .int 1]))]) [1] (by decide) rfl
                    have hKc := hK.sub (tys' := []) [] rfl
                    have hFc := va_free (wc := [(ps1, .inr (3, [.int 1, .ref q_12, .int 1]))]) hD hS hA [1] rfl
                    refine va_calli (va_runV (As := []) (rest := []) ⟨hx, hb, hml, hown, hts⟩ (c_size1 l hst em kw kb D ps1 1 q_12 _) (cwV 0 hts gX3_come_Jx4a65c_size_8abf5 rfl rfl rfl (by decide +kernel) ⟨(Nat.le_of_ble_eq_true rfl), (Nat.le_of_ble_eq_true rfl)⟩) (tw_preV hF hS hFc hPc hKc hDc (va_recv hKc hPc (ci := 3) (q0 := 0) rfl rfl)) rfl rfl hl.1 rfl (lv_room (Nat.le_of_ble_eq_true rfl)) dX3_come_148 ⟨(Nat.le_of_ble_eq_true rfl), (Nat.le_of_ble_eq_true rfl)⟩) hS (fun q _ h => hFc q h) hFc (fun r u t H locs ht hvm hw hB hz1 hk1 hS => ?_)
                    obtain ⟨rfl, rfl⟩ := hw
                    obtain ⟨hP, hD, hK⟩ := tw_join (wr := [(x, .inr (7, [.ref c1, .ref ps1, .ref lg, .int 9, .int 99, .int 0, .int 0, .int 0, .int ((-1)), .int 0, .int 0, .long 0])), (q_11, .inr (6, [.int p1, .int p2, .int p3, .int p0, .int 0, .int 0, .int 114]))]) hP hD hK [1] [0, 2] rfl rfl (by decide) (by decide) hk1 hFc ht hvm hB
                    have hP : va_P D vwCl [(x, .inr (7, [.ref c1, .ref ps1, .ref lg, .int 9, .int 99, .int 0, .int 0, .int 0, .int ((-1)), .int 0, .int 0, .long 0])), (q_11, .inr (6, [.int p1, .int p2, .int p3, .int p0, .int 0, .int 0, .int 114])), (ps1, .inr (3, [.int 1, .ref q_12, .int 1]))] _ := hP
                    have hD : va_D A [(x, .inr (7, [.ref c1, .ref ps1, .ref lg, .int 9, .int 99, .int 0, .int 0, .int 0, .int ((-1)), .int 0, .int 0, .long 0])), (q_11, .inr (6, [.int p1, .int p2, .int p3, .int p0, .int 0, .int 0, .int 114])), (ps1, .inr (3, [.int 1, .ref q_12, .int 1]))] := hD
                    have hK : va_K D vwCl [] s := hK
                    refine W.widen (k := 2) (n := 17) (Nat.le_refl _) (Nat.le_refl _) ?_
                    refine W.eq (g2 := F0 m 151 ls [.int 1]) rfl ?_
                    refine lv_iconst (v := 1) hx hb dX3_come_151 (by decide) ?_
                    refine lv_isub hx hb dX3_come_152 ?_
                    refine lv_topi (fun z_19 ez_19 => ?_)
                    have ez_19 : z_19 = (0 : Int32) := ez_19.trans (by decide)
                    subst ez_19
                    refine W.widen (k := 2) (n := 17) (Nat.le_of_ble_eq_true rfl) (Nat.le_of_ble_eq_true rfl) ?_
                    have hP9 := hP.sub (ws' := []) [] rfl
                    have hD9 := hD.sub (ws' := []) [] (by decide) rfl
                    have hK9 := hK.sub (tys' := []) [] rfl
                    refine vx_ret ?_
                    exact W.iret (v := 0) hx hb hr (fun t ht hW => ⟨⟨0, ([], []), rfl, ⟨(Or.inr (Or.inr (⟨g_2, g_4, c_5, c_6, c_7, c_8, c_9, c_10, g_18⟩))), rfl, rfl⟩, by rw [ht]; exact hP9, va_K.moved hW.alike hK9, hD9⟩, hS.F ht⟩) hS.2.2 dX3_come_153
                · obtain ⟨sa, hstr⟩ := tw_str hF (q := (99, "a number is out of range")) (by decide)
                  have hP9 := hP.sub (ws' := []) [] rfl
                  have hD9 := hD.sub (ws' := []) [] (by decide) rfl
                  have hK9 := hK.sub (tys' := []) [] rfl
                  exact vx_throwS hx hb hst (own := RX3) (cls := "java/lang/IllegalArgumentException") (text := "a number is out of range") (names := ["java/lang/RuntimeException", "java/lang/Exception"]) (ik := 37) (is := 99) (ic := 41) hown (by decide +kernel) (by decide +kernel) (hts (.classLink RX3 37 "java/lang/IllegalArgumentException") (by decide +kernel)) (hts (.initialized "java/lang/IllegalArgumentException") (by decide +kernel)) hstr (tw_hat hF (fun w h => hts w (hx41 w h)) (by decide +kernel)) (by decide +kernel) hF.1 hF.2.1 hS (hl.1.trans hml.symm) dX3_come_63 dX3_come_66 dX3_come_67 dX3_come_69 dX3_come_72 (fun x9 h9 => (htab x9 h9).elim) (Nat.le_of_ble_eq_true rfl) (Nat.le_of_ble_eq_true rfl) (Nat.le_of_ble_eq_true rfl) (Nat.le_of_ble_eq_true rfl) hlocks (tw_exc hP9 hK9 hD9 hS _ ⟨(Or.inr (Or.inr (Or.inr (Or.inr (Or.inr (Or.inr (Or.inl ⟨g_2, g_4, c_5, c_6, c_7, c_8, c_9, c_10⟩))))))), rfl⟩) hS.2.2 (Nat.le_of_ble_eq_true rfl) (Nat.le_of_ble_eq_true rfl)
      · obtain ⟨sa, hstr⟩ := tw_str hF (q := (97, "no such floor, or both are the same")) (by decide)
        have hP9 := hP.sub (ws' := []) [] rfl
        have hD9 := hD.sub (ws' := []) [] (by decide) rfl
        have hK9 := hK.sub (tys' := []) [] rfl
        exact vx_throwS hx hb hst (own := RX3) (cls := "java/lang/IllegalArgumentException") (text := "no such floor, or both are the same") (names := ["java/lang/RuntimeException", "java/lang/Exception"]) (ik := 37) (is := 97) (ic := 41) hown (by decide +kernel) (by decide +kernel) (hts (.classLink RX3 37 "java/lang/IllegalArgumentException") (by decide +kernel)) (hts (.initialized "java/lang/IllegalArgumentException") (by decide +kernel)) hstr (tw_hat hF (fun w h => hts w (hx41 w h)) (by decide +kernel)) (by decide +kernel) hF.1 hF.2.1 hS (hl.1.trans hml.symm) dX3_come_21 dX3_come_24 dX3_come_25 dX3_come_27 dX3_come_30 (fun x9 h9 => (htab x9 h9).elim) (Nat.le_of_ble_eq_true rfl) (Nat.le_of_ble_eq_true rfl) (Nat.le_of_ble_eq_true rfl) (Nat.le_of_ble_eq_true rfl) hlocks (tw_exc hP9 hK9 hD9 hS _ ⟨(Or.inr (Or.inr (Or.inr (Or.inr (Or.inr (Or.inr (Or.inr (⟨g_2, g_4, c_5⟩)))))))), rfl⟩) hS.2.2 (Nat.le_of_ble_eq_true rfl) (Nat.le_of_ble_eq_true rfl)
set_option maxHeartbeats 4000000 in
set_option maxRecDepth 100000 in
theorem c_X3_park (l : Launch) (hst : l.stackTraces = false) (em kw kb : Nat) (D : va_G) (x : Nat) (p0 : Int32) (p1 : Int32) (c1 : Nat) (ps1 : Nat) (lg : Nat) (sz : Nat) : vx_Met l yX3_park wsX3_park ({ frames := 7, cells := 1, slots := 6, locals := 103 }) (va_Pc [.ref x, .int p0, .int p1] (tw_Pre em kw kb D sz [(x, .inr (7, [.ref c1, .ref ps1, .ref lg, .int 9, .int 99, .int 0, .int 0, .int 0, .int ((-1)), .int 0, .int 0, .long 0])), (c1, .inr (3, [.int 0, .ref em, .int 0]))] [])) (va_Qi (fun (r : Int32) (u : tw_U) => False) (tw_B D (va_A [(x, .inr (7, [.ref c1, .ref ps1, .ref lg, .int 9, .int 99, .int 0, .int 0, .int 0, .int ((-1)), .int 0, .int 0, .long 0])), (c1, .inr (3, [.int 0, .ref em, .int 0]))] sz)) (va_A [(x, .inr (7, [.ref c1, .ref ps1, .ref lg, .int 9, .int 99, .int 0, .int 0, .int 0, .int ((-1)), .int 0, .int 0, .long 0])), (c1, .inr (3, [.int 0, .ref em, .int 0]))] sz)) (vx_X (fun (u : String × tw_U) => u = ("java/lang/IndexOutOfBoundsException", (([], []) : tw_U))) (tw_BX D (va_A [(x, .inr (7, [.ref c1, .ref ps1, .ref lg, .int 9, .int 99, .int 0, .int 0, .int 0, .int ((-1)), .int 0, .int 0, .long 0])), (c1, .inr (3, [.int 0, .ref em, .int 0]))] sz)) (va_A [(x, .inr (7, [.ref c1, .ref ps1, .ref lg, .int 9, .int 99, .int 0, .int 0, .int 0, .int ((-1)), .int 0, .int 0, .long 0])), (c1, .inr (3, [.int 0, .ref em, .int 0]))] sz)) 1 6 (va_A [(x, .inr (7, [.ref c1, .ref ps1, .ref lg, .int 9, .int 99, .int 0, .int 0, .int 0, .int ((-1)), .int 0, .int 0, .long 0])), (c1, .inr (3, [.int 0, .ref em, .int 0]))] sz) := by
  refine vx_ofW (cc := cX3_park) (maxL := 5) (ret := (some .int)) (by decide) rfl ?_
  intro p e s m args below meth c s₁ B hml htab hv
  obtain ⟨rfl, hsz, hP, hK, hD0, hF⟩ := hv
  have hx := B.exec
  have hb := B.bytes
  have hr := B.returns
  have hts := atoms_spec (ws := wsX3_park) B.pre
  have hown : s.vm.findClass RX3 = some m.cls := findClass_of_methodNamed B.named
  have hlocks := B.notSynchronized
  subst hsz
  have hD := hD0.self (sz := s.heap.size)
  generalize hAe : va_A [(x, .inr (7, [.ref c1, .ref ps1, .ref lg, .int 9, .int 99, .int 0, .int 0, .int 0, .int ((-1)), .int 0, .int 0, .long 0])), (c1, .inr (3, [.int 0, .ref em, .int 0]))] s.heap.size = A at hD hF ⊢
  have hA : ∀ q : Nat, s.heap.size ≤ q → A q := fun q h => by rw [← hAe]; exact Or.inr h
  have hS : va_S A s.heap s.heap [] := va_S.rf
  have hP : va_P D vwCl [(x, .inr (7, [.ref c1, .ref ps1, .ref lg, .int 9, .int 99, .int 0, .int 0, .int 0, .int ((-1)), .int 0, .int 0, .long 0])), (c1, .inr (3, [.int 0, .ref em, .int 0]))] s.heap := hP
  have hl := lv_entry ([.ref x, .int p0, .int p1]) (n := 5) (Nat.le_of_ble_eq_true rfl)
  rw [lg_entry_eq]
  generalize (lg_sl ([.ref x, .int p0, .int p1]) ++ List.replicate (5 - (lg_sl ([.ref x, .int p0, .int p1])).length) Slot.unset).toArray = ls at hl ⊢
  have hl : lv_has ls 5 [(0, .ref x), (1, .int p0), (2, .int p1)] := hl
  refine lv_aload_n hx hb dX3_park_0 rfl (lv_at hl 0 rfl) ?_
  refine lv_iload_n hx hb dX3_park_1 rfl (lv_at hl 1 rfl) ?_
  have hPc := hP.sub (ws' := [(x, .inr (7, [.ref c1, .ref ps1, .ref lg, .int 9, .int 99, .int 0, .int 0, .int 0, .int ((-1)), .int 0, .int 0, .long 0])), (c1, .inr (3, [.int 0, .ref em, .int 0]))]) [0, 1] rfl
  have hDc := hD.sub (ws' := [(x, .inr (7, [.ref c1, .ref ps1, .ref lg, .int 9, .int 99, .int 0, .int 0, .int 0, .int ((-1)), .int 0, .int 0, .long 0])), (c1, .inr (3, [.int 0, .ref em, .int 0]))]) [0, 1] (by decide) rfl
  have hKc := hK.sub (tys' := []) [] rfl
  have hFc := va_free (wc := [(x, .inr (7, [.ref c1, .ref ps1, .ref lg, .int 9, .int 99, .int 0, .int 0, .int 0, .int ((-1)), .int 0, .int 0, .long 0])), (c1, .inr (3, [.int 0, .ref em, .int 0]))]) hD hS hA [0, 1] rfl
  refine vx_callq (vx_runV (As := [.int p0]) (rest := []) ⟨hx, hb, hml, hown, hts⟩ (c_X3_carOf l hst em kw kb D x p0 c1 ps1 lg _) (cwV 1 hts gX3_park_X3_carOf rfl rfl rfl (by decide +kernel) ⟨(Nat.le_of_ble_eq_true rfl), (Nat.le_of_ble_eq_true rfl)⟩) (tw_preV hF hS hFc hPc hKc hDc (va_recv hKc hPc (ci := 7) (q0 := 0) rfl rfl)) rfl rfl hl.1 rfl (lv_room (Nat.le_of_ble_eq_true rfl)) dX3_park_2 ⟨(Nat.le_of_ble_eq_true rfl), (Nat.le_of_ble_eq_true rfl)⟩) hS (fun q _ h => hFc q h) hFc (fun q _ h => hFc q h) (fun E ce q9 u t H locs ht hvm hw hB hz1 hk1 hS hce hcv hcl => ?_) (fun r u t H locs ht hvm hw hB hz1 hk1 hS => ?_)
  · obtain ⟨hE, hB⟩ := hB
    subst hw
    subst hE
    obtain ⟨hP, hD, hK⟩ := tw_join (wr := []) hP hD hK [0, 1] [] rfl rfl (by decide) (by decide) hk1 hFc ht hvm hB
    have hP : va_P D vwCl [(x, .inr (7, [.ref c1, .ref ps1, .ref lg, .int 9, .int 99, .int 0, .int 0, .int 0, .int ((-1)), .int 0, .int 0, .long 0])), (c1, .inr (3, [.int 0, .ref em, .int 0]))] _ := hP
    have hD : va_D A [(x, .inr (7, [.ref c1, .ref ps1, .ref lg, .int 9, .int 99, .int 0, .int 0, .int 0, .int ((-1)), .int 0, .int 0, .long 0])), (c1, .inr (3, [.int 0, .ref em, .int 0]))] := hD
    have hK : va_K D vwCl [] s := hK
    refine vx_widen (k := 1) (n := 6) (Nat.le_of_ble_eq_true rfl) (Nat.le_of_ble_eq_true rfl) ?_
    have hP9 := hP.sub (ws' := []) [] rfl
    have hD9 := hD.sub (ws' := []) [] (by decide) rfl
    have hK9 := hK.sub (tys' := []) [] rfl
    exact vx_out (fun x9 h9 => (htab x9 h9).elim) hlocks hce hcv hcl (tw_exc2 hP9 hK9 hD9 hS _ rfl) hS.2.2 (Nat.le_refl _) (Nat.le_refl _)
  · exact hw.elim
set_option maxHeartbeats 4000000 in
set_option maxRecDepth 100000 in
theorem c_X3_serves (l : Launch) (hst : l.stackTraces = false) (em kw kb : Nat) (D : va_G) (x : Nat) (p0 : Int32) (p1 : Int32) (c1 : Nat) (ps1 : Nat) (lg : Nat) (sz : Nat) : vx_Met l yX3_serves wsX3_serves ({ frames := 7, cells := 1, slots := 6, locals := 103 }) (va_Pc [.ref x, .int p0, .int p1] (tw_Pre em kw kb D sz [(x, .inr (7, [.ref c1, .ref ps1, .ref lg, .int 9, .int 99, .int 0, .int 0, .int 0, .int ((-1)), .int 0, .int 0, .long 0])), (c1, .inr (3, [.int 0, .ref em, .int 0]))] [])) (va_Qi (fun (r : Int32) (u : tw_U) => False) (tw_B D (va_A [(x, .inr (7, [.ref c1, .ref ps1, .ref lg, .int 9, .int 99, .int 0, .int 0, .int 0, .int ((-1)), .int 0, .int 0, .long 0])), (c1, .inr (3, [.int 0, .ref em, .int 0]))] sz)) (va_A [(x, .inr (7, [.ref c1, .ref ps1, .ref lg, .int 9, .int 99, .int 0, .int 0, .int 0, .int ((-1)), .int 0, .int 0, .long 0])), (c1, .inr (3, [.int 0, .ref em, .int 0]))] sz)) (vx_X (fun (u : String × tw_U) => u = ("java/lang/IndexOutOfBoundsException", (([], []) : tw_U))) (tw_BX D (va_A [(x, .inr (7, [.ref c1, .ref ps1, .ref lg, .int 9, .int 99, .int 0, .int 0, .int 0, .int ((-1)), .int 0, .int 0, .long 0])), (c1, .inr (3, [.int 0, .ref em, .int 0]))] sz)) (va_A [(x, .inr (7, [.ref c1, .ref ps1, .ref lg, .int 9, .int 99, .int 0, .int 0, .int 0, .int ((-1)), .int 0, .int 0, .long 0])), (c1, .inr (3, [.int 0, .ref em, .int 0]))] sz)) 1 6 (va_A [(x, .inr (7, [.ref c1, .ref ps1, .ref lg, .int 9, .int 99, .int 0, .int 0, .int 0, .int ((-1)), .int 0, .int 0, .long 0])), (c1, .inr (3, [.int 0, .ref em, .int 0]))] sz) := by
  refine vx_ofW (cc := cX3_serves) (maxL := 4) (ret := (some .boolean)) (by decide) rfl ?_
  intro p e s m args below meth c s₁ B hml htab hv
  obtain ⟨rfl, hsz, hP, hK, hD0, hF⟩ := hv
  have hx := B.exec
  have hb := B.bytes
  have hr := B.returns
  have hts := atoms_spec (ws := wsX3_serves) B.pre
  have hown : s.vm.findClass RX3 = some m.cls := findClass_of_methodNamed B.named
  have hlocks := B.notSynchronized
  subst hsz
  have hD := hD0.self (sz := s.heap.size)
  generalize hAe : va_A [(x, .inr (7, [.ref c1, .ref ps1, .ref lg, .int 9, .int 99, .int 0, .int 0, .int 0, .int ((-1)), .int 0, .int 0, .long 0])), (c1, .inr (3, [.int 0, .ref em, .int 0]))] s.heap.size = A at hD hF ⊢
  have hA : ∀ q : Nat, s.heap.size ≤ q → A q := fun q h => by rw [← hAe]; exact Or.inr h
  have hS : va_S A s.heap s.heap [] := va_S.rf
  have hP : va_P D vwCl [(x, .inr (7, [.ref c1, .ref ps1, .ref lg, .int 9, .int 99, .int 0, .int 0, .int 0, .int ((-1)), .int 0, .int 0, .long 0])), (c1, .inr (3, [.int 0, .ref em, .int 0]))] s.heap := hP
  have hl := lv_entry ([.ref x, .int p0, .int p1]) (n := 4) (Nat.le_of_ble_eq_true rfl)
  rw [lg_entry_eq]
  generalize (lg_sl ([.ref x, .int p0, .int p1]) ++ List.replicate (4 - (lg_sl ([.ref x, .int p0, .int p1])).length) Slot.unset).toArray = ls at hl ⊢
  have hl : lv_has ls 4 [(0, .ref x), (1, .int p0), (2, .int p1)] := hl
  refine lv_aload_n hx hb dX3_serves_0 rfl (lv_at hl 0 rfl) ?_
  refine lv_iload_n hx hb dX3_serves_1 rfl (lv_at hl 1 rfl) ?_
  have hPc := hP.sub (ws' := [(x, .inr (7, [.ref c1, .ref ps1, .ref lg, .int 9, .int 99, .int 0, .int 0, .int 0, .int ((-1)), .int 0, .int 0, .long 0])), (c1, .inr (3, [.int 0, .ref em, .int 0]))]) [0, 1] rfl
  have hDc := hD.sub (ws' := [(x, .inr (7, [.ref c1, .ref ps1, .ref lg, .int 9, .int 99, .int 0, .int 0, .int 0, .int ((-1)), .int 0, .int 0, .long 0])), (c1, .inr (3, [.int 0, .ref em, .int 0]))]) [0, 1] (by decide) rfl
  have hKc := hK.sub (tys' := []) [] rfl
  have hFc := va_free (wc := [(x, .inr (7, [.ref c1, .ref ps1, .ref lg, .int 9, .int 99, .int 0, .int 0, .int 0, .int ((-1)), .int 0, .int 0, .long 0])), (c1, .inr (3, [.int 0, .ref em, .int 0]))]) hD hS hA [0, 1] rfl
  refine vx_callq (vx_runV (As := [.int p0]) (rest := []) ⟨hx, hb, hml, hown, hts⟩ (c_X3_carOf l hst em kw kb D x p0 c1 ps1 lg _) (cwV 1 hts gX3_serves_X3_carOf rfl rfl rfl (by decide +kernel) ⟨(Nat.le_of_ble_eq_true rfl), (Nat.le_of_ble_eq_true rfl)⟩) (tw_preV hF hS hFc hPc hKc hDc (va_recv hKc hPc (ci := 7) (q0 := 0) rfl rfl)) rfl rfl hl.1 rfl (lv_room (Nat.le_of_ble_eq_true rfl)) dX3_serves_2 ⟨(Nat.le_of_ble_eq_true rfl), (Nat.le_of_ble_eq_true rfl)⟩) hS (fun q _ h => hFc q h) hFc (fun q _ h => hFc q h) (fun E ce q9 u t H locs ht hvm hw hB hz1 hk1 hS hce hcv hcl => ?_) (fun r u t H locs ht hvm hw hB hz1 hk1 hS => ?_)
  · obtain ⟨hE, hB⟩ := hB
    subst hw
    subst hE
    obtain ⟨hP, hD, hK⟩ := tw_join (wr := []) hP hD hK [0, 1] [] rfl rfl (by decide) (by decide) hk1 hFc ht hvm hB
    have hP : va_P D vwCl [(x, .inr (7, [.ref c1, .ref ps1, .ref lg, .int 9, .int 99, .int 0, .int 0, .int 0, .int ((-1)), .int 0, .int 0, .long 0])), (c1, .inr (3, [.int 0, .ref em, .int 0]))] _ := hP
    have hD : va_D A [(x, .inr (7, [.ref c1, .ref ps1, .ref lg, .int 9, .int 99, .int 0, .int 0, .int 0, .int ((-1)), .int 0, .int 0, .long 0])), (c1, .inr (3, [.int 0, .ref em, .int 0]))] := hD
    have hK : va_K D vwCl [] s := hK
    refine vx_widen (k := 1) (n := 6) (Nat.le_of_ble_eq_true rfl) (Nat.le_of_ble_eq_true rfl) ?_
    have hP9 := hP.sub (ws' := []) [] rfl
    have hD9 := hD.sub (ws' := []) [] (by decide) rfl
    have hK9 := hK.sub (tys' := []) [] rfl
    exact vx_out (fun x9 h9 => (htab x9 h9).elim) hlocks hce hcv hcl (tw_exc2 hP9 hK9 hD9 hS _ rfl) hS.2.2 (Nat.le_refl _) (Nat.le_refl _)
  · exact hw.elim
set_option maxHeartbeats 4000000 in
set_option maxRecDepth 100000 in
theorem c_X3_floorOf (l : Launch) (hst : l.stackTraces = false) (em kw kb : Nat) (D : va_G) (x : Nat) (p0 : Int32) (c1 : Nat) (ps1 : Nat) (lg : Nat) (sz : Nat) : vx_Met l yX3_floorOf wsX3_floorOf ({ frames := 7, cells := 1, slots := 6, locals := 103 }) (va_Pc [.ref x, .int p0] (tw_Pre em kw kb D sz [(x, .inr (7, [.ref c1, .ref ps1, .ref lg, .int 9, .int 99, .int 0, .int 0, .int 0, .int ((-1)), .int 0, .int 0, .long 0])), (c1, .inr (3, [.int 0, .ref em, .int 0]))] [])) (va_Qi (fun (r : Int32) (u : tw_U) => False) (tw_B D (va_A [(x, .inr (7, [.ref c1, .ref ps1, .ref lg, .int 9, .int 99, .int 0, .int 0, .int 0, .int ((-1)), .int 0, .int 0, .long 0])), (c1, .inr (3, [.int 0, .ref em, .int 0]))] sz)) (va_A [(x, .inr (7, [.ref c1, .ref ps1, .ref lg, .int 9, .int 99, .int 0, .int 0, .int 0, .int ((-1)), .int 0, .int 0, .long 0])), (c1, .inr (3, [.int 0, .ref em, .int 0]))] sz)) (vx_X (fun (u : String × tw_U) => u = ("java/lang/IndexOutOfBoundsException", (([], []) : tw_U))) (tw_BX D (va_A [(x, .inr (7, [.ref c1, .ref ps1, .ref lg, .int 9, .int 99, .int 0, .int 0, .int 0, .int ((-1)), .int 0, .int 0, .long 0])), (c1, .inr (3, [.int 0, .ref em, .int 0]))] sz)) (va_A [(x, .inr (7, [.ref c1, .ref ps1, .ref lg, .int 9, .int 99, .int 0, .int 0, .int 0, .int ((-1)), .int 0, .int 0, .long 0])), (c1, .inr (3, [.int 0, .ref em, .int 0]))] sz)) 1 6 (va_A [(x, .inr (7, [.ref c1, .ref ps1, .ref lg, .int 9, .int 99, .int 0, .int 0, .int 0, .int ((-1)), .int 0, .int 0, .long 0])), (c1, .inr (3, [.int 0, .ref em, .int 0]))] sz) := by
  refine vx_ofW (cc := cX3_floorOf) (maxL := 2) (ret := (some .int)) (by decide) rfl ?_
  intro p e s m args below meth c s₁ B hml htab hv
  obtain ⟨rfl, hsz, hP, hK, hD0, hF⟩ := hv
  have hx := B.exec
  have hb := B.bytes
  have hr := B.returns
  have hts := atoms_spec (ws := wsX3_floorOf) B.pre
  have hown : s.vm.findClass RX3 = some m.cls := findClass_of_methodNamed B.named
  have hlocks := B.notSynchronized
  subst hsz
  have hD := hD0.self (sz := s.heap.size)
  generalize hAe : va_A [(x, .inr (7, [.ref c1, .ref ps1, .ref lg, .int 9, .int 99, .int 0, .int 0, .int 0, .int ((-1)), .int 0, .int 0, .long 0])), (c1, .inr (3, [.int 0, .ref em, .int 0]))] s.heap.size = A at hD hF ⊢
  have hA : ∀ q : Nat, s.heap.size ≤ q → A q := fun q h => by rw [← hAe]; exact Or.inr h
  have hS : va_S A s.heap s.heap [] := va_S.rf
  have hP : va_P D vwCl [(x, .inr (7, [.ref c1, .ref ps1, .ref lg, .int 9, .int 99, .int 0, .int 0, .int 0, .int ((-1)), .int 0, .int 0, .long 0])), (c1, .inr (3, [.int 0, .ref em, .int 0]))] s.heap := hP
  have hl := lv_entry ([.ref x, .int p0]) (n := 2) (Nat.le_of_ble_eq_true rfl)
  rw [lg_entry_eq]
  generalize (lg_sl ([.ref x, .int p0]) ++ List.replicate (2 - (lg_sl ([.ref x, .int p0])).length) Slot.unset).toArray = ls at hl ⊢
  have hl : lv_has ls 2 [(0, .ref x), (1, .int p0)] := hl
  refine lv_aload_n hx hb dX3_floorOf_0 rfl (lv_at hl 0 rfl) ?_
  refine lv_iload_n hx hb dX3_floorOf_1 rfl (lv_at hl 1 rfl) ?_
  have hPc := hP.sub (ws' := [(x, .inr (7, [.ref c1, .ref ps1, .ref lg, .int 9, .int 99, .int 0, .int 0, .int 0, .int ((-1)), .int 0, .int 0, .long 0])), (c1, .inr (3, [.int 0, .ref em, .int 0]))]) [0, 1] rfl
  have hDc := hD.sub (ws' := [(x, .inr (7, [.ref c1, .ref ps1, .ref lg, .int 9, .int 99, .int 0, .int 0, .int 0, .int ((-1)), .int 0, .int 0, .long 0])), (c1, .inr (3, [.int 0, .ref em, .int 0]))]) [0, 1] (by decide) rfl
  have hKc := hK.sub (tys' := []) [] rfl
  have hFc := va_free (wc := [(x, .inr (7, [.ref c1, .ref ps1, .ref lg, .int 9, .int 99, .int 0, .int 0, .int 0, .int ((-1)), .int 0, .int 0, .long 0])), (c1, .inr (3, [.int 0, .ref em, .int 0]))]) hD hS hA [0, 1] rfl
  refine vx_callq (vx_runV (As := [.int p0]) (rest := []) ⟨hx, hb, hml, hown, hts⟩ (c_X3_carOf l hst em kw kb D x p0 c1 ps1 lg _) (cwV 1 hts gX3_floorOf_X3_carOf rfl rfl rfl (by decide +kernel) ⟨(Nat.le_of_ble_eq_true rfl), (Nat.le_of_ble_eq_true rfl)⟩) (tw_preV hF hS hFc hPc hKc hDc (va_recv hKc hPc (ci := 7) (q0 := 0) rfl rfl)) rfl rfl hl.1 rfl (lv_room (Nat.le_of_ble_eq_true rfl)) dX3_floorOf_2 ⟨(Nat.le_of_ble_eq_true rfl), (Nat.le_of_ble_eq_true rfl)⟩) hS (fun q _ h => hFc q h) hFc (fun q _ h => hFc q h) (fun E ce q9 u t H locs ht hvm hw hB hz1 hk1 hS hce hcv hcl => ?_) (fun r u t H locs ht hvm hw hB hz1 hk1 hS => ?_)
  · obtain ⟨hE, hB⟩ := hB
    subst hw
    subst hE
    obtain ⟨hP, hD, hK⟩ := tw_join (wr := []) hP hD hK [0, 1] [] rfl rfl (by decide) (by decide) hk1 hFc ht hvm hB
    have hP : va_P D vwCl [(x, .inr (7, [.ref c1, .ref ps1, .ref lg, .int 9, .int 99, .int 0, .int 0, .int 0, .int ((-1)), .int 0, .int 0, .long 0])), (c1, .inr (3, [.int 0, .ref em, .int 0]))] _ := hP
    have hD : va_D A [(x, .inr (7, [.ref c1, .ref ps1, .ref lg, .int 9, .int 99, .int 0, .int 0, .int 0, .int ((-1)), .int 0, .int 0, .long 0])), (c1, .inr (3, [.int 0, .ref em, .int 0]))] := hD
    have hK : va_K D vwCl [] s := hK
    refine vx_widen (k := 1) (n := 6) (Nat.le_of_ble_eq_true rfl) (Nat.le_of_ble_eq_true rfl) ?_
    have hP9 := hP.sub (ws' := []) [] rfl
    have hD9 := hD.sub (ws' := []) [] (by decide) rfl
    have hK9 := hK.sub (tys' := []) [] rfl
    exact vx_out (fun x9 h9 => (htab x9 h9).elim) hlocks hce hcv hcl (tw_exc2 hP9 hK9 hD9 hS _ rfl) hS.2.2 (Nat.le_refl _) (Nat.le_refl _)
  · exact hw.elim
set_option maxHeartbeats 4000000 in
set_option maxRecDepth 100000 in
theorem c_X3_floorByLog (l : Launch) (hst : l.stackTraces = false) (em kw kb : Nat) (D : va_G) (x : Nat) (p0 : Int32) (c1 : Nat) (ps1 : Nat) (lg : Nat) (sz : Nat) : vx_Met l yX3_floorByLog wsX3_floorByLog ({ frames := 7, cells := 1, slots := 6, locals := 103 }) (va_Pc [.ref x, .int p0] (tw_Pre em kw kb D sz [(x, .inr (7, [.ref c1, .ref ps1, .ref lg, .int 9, .int 99, .int 0, .int 0, .int 0, .int ((-1)), .int 0, .int 0, .long 0])), (c1, .inr (3, [.int 0, .ref em, .int 0]))] [])) (va_Qi (fun (r : Int32) (u : tw_U) => False) (tw_B D (va_A [(x, .inr (7, [.ref c1, .ref ps1, .ref lg, .int 9, .int 99, .int 0, .int 0, .int 0, .int ((-1)), .int 0, .int 0, .long 0])), (c1, .inr (3, [.int 0, .ref em, .int 0]))] sz)) (va_A [(x, .inr (7, [.ref c1, .ref ps1, .ref lg, .int 9, .int 99, .int 0, .int 0, .int 0, .int ((-1)), .int 0, .int 0, .long 0])), (c1, .inr (3, [.int 0, .ref em, .int 0]))] sz)) (vx_X (fun (u : String × tw_U) => u = ("java/lang/IndexOutOfBoundsException", (([], []) : tw_U))) (tw_BX D (va_A [(x, .inr (7, [.ref c1, .ref ps1, .ref lg, .int 9, .int 99, .int 0, .int 0, .int 0, .int ((-1)), .int 0, .int 0, .long 0])), (c1, .inr (3, [.int 0, .ref em, .int 0]))] sz)) (va_A [(x, .inr (7, [.ref c1, .ref ps1, .ref lg, .int 9, .int 99, .int 0, .int 0, .int 0, .int ((-1)), .int 0, .int 0, .long 0])), (c1, .inr (3, [.int 0, .ref em, .int 0]))] sz)) 1 6 (va_A [(x, .inr (7, [.ref c1, .ref ps1, .ref lg, .int 9, .int 99, .int 0, .int 0, .int 0, .int ((-1)), .int 0, .int 0, .long 0])), (c1, .inr (3, [.int 0, .ref em, .int 0]))] sz) := by
  refine vx_ofW (cc := cX3_floorByLog) (maxL := 2) (ret := (some .int)) (by decide) rfl ?_
  intro p e s m args below meth c s₁ B hml htab hv
  obtain ⟨rfl, hsz, hP, hK, hD0, hF⟩ := hv
  have hx := B.exec
  have hb := B.bytes
  have hr := B.returns
  have hts := atoms_spec (ws := wsX3_floorByLog) B.pre
  have hown : s.vm.findClass RX3 = some m.cls := findClass_of_methodNamed B.named
  have hlocks := B.notSynchronized
  subst hsz
  have hD := hD0.self (sz := s.heap.size)
  generalize hAe : va_A [(x, .inr (7, [.ref c1, .ref ps1, .ref lg, .int 9, .int 99, .int 0, .int 0, .int 0, .int ((-1)), .int 0, .int 0, .long 0])), (c1, .inr (3, [.int 0, .ref em, .int 0]))] s.heap.size = A at hD hF ⊢
  have hA : ∀ q : Nat, s.heap.size ≤ q → A q := fun q h => by rw [← hAe]; exact Or.inr h
  have hS : va_S A s.heap s.heap [] := va_S.rf
  have hP : va_P D vwCl [(x, .inr (7, [.ref c1, .ref ps1, .ref lg, .int 9, .int 99, .int 0, .int 0, .int 0, .int ((-1)), .int 0, .int 0, .long 0])), (c1, .inr (3, [.int 0, .ref em, .int 0]))] s.heap := hP
  have hl := lv_entry ([.ref x, .int p0]) (n := 2) (Nat.le_of_ble_eq_true rfl)
  rw [lg_entry_eq]
  generalize (lg_sl ([.ref x, .int p0]) ++ List.replicate (2 - (lg_sl ([.ref x, .int p0])).length) Slot.unset).toArray = ls at hl ⊢
  have hl : lv_has ls 2 [(0, .ref x), (1, .int p0)] := hl
  refine lv_aload_n hx hb dX3_floorByLog_0 rfl (lv_at hl 0 rfl) ?_
  refine lv_aload_n hx hb dX3_floorByLog_1 rfl (lv_at hl 0 rfl) ?_
  refine lv_iload_n hx hb dX3_floorByLog_2 rfl (lv_at hl 1 rfl) ?_
  have hPc := hP.sub (ws' := [(x, .inr (7, [.ref c1, .ref ps1, .ref lg, .int 9, .int 99, .int 0, .int 0, .int 0, .int ((-1)), .int 0, .int 0, .long 0])), (c1, .inr (3, [.int 0, .ref em, .int 0]))]) [0, 1] rfl
  have hDc := hD.sub (ws' := [(x, .inr (7, [.ref c1, .ref ps1, .ref lg, .int 9, .int 99, .int 0, .int 0, .int 0, .int ((-1)), .int 0, .int 0, .long 0])), (c1, .inr (3, [.int 0, .ref em, .int 0]))]) [0, 1] (by decide) rfl
  have hKc := hK.sub (tys' := []) [] rfl
  have hFc := va_free (wc := [(x, .inr (7, [.ref c1, .ref ps1, .ref lg, .int 9, .int 99, .int 0, .int 0, .int 0, .int ((-1)), .int 0, .int 0, .long 0])), (c1, .inr (3, [.int 0, .ref em, .int 0]))]) hD hS hA [0, 1] rfl
  refine vx_callq (vx_runV (As := [.int p0]) (rest := [.ref x]) ⟨hx, hb, hml, hown, hts⟩ (c_X3_carOf l hst em kw kb D x p0 c1 ps1 lg _) (cwV 1 hts gX3_floorByLog_X3_carOf rfl rfl rfl (by decide +kernel) ⟨(Nat.le_of_ble_eq_true rfl), (Nat.le_of_ble_eq_true rfl)⟩) (tw_preV hF hS hFc hPc hKc hDc (va_recv hKc hPc (ci := 7) (q0 := 0) rfl rfl)) rfl rfl hl.1 rfl (lv_room (Nat.le_of_ble_eq_true rfl)) dX3_floorByLog_3 ⟨(Nat.le_of_ble_eq_true rfl), (Nat.le_of_ble_eq_true rfl)⟩) hS (fun q _ h => hFc q h) hFc (fun q _ h => hFc q h) (fun E ce q9 u t H locs ht hvm hw hB hz1 hk1 hS hce hcv hcl => ?_) (fun r u t H locs ht hvm hw hB hz1 hk1 hS => ?_)
  · obtain ⟨hE, hB⟩ := hB
    subst hw
    subst hE
    obtain ⟨hP, hD, hK⟩ := tw_join (wr := []) hP hD hK [0, 1] [] rfl rfl (by decide) (by decide) hk1 hFc ht hvm hB
    have hP : va_P D vwCl [(x, .inr (7, [.ref c1, .ref ps1, .ref lg, .int 9, .int 99, .int 0, .int 0, .int 0, .int ((-1)), .int 0, .int 0, .long 0])), (c1, .inr (3, [.int 0, .ref em, .int 0]))] _ := hP
    have hD : va_D A [(x, .inr (7, [.ref c1, .ref ps1, .ref lg, .int 9, .int 99, .int 0, .int 0, .int 0, .int ((-1)), .int 0, .int 0, .long 0])), (c1, .inr (3, [.int 0, .ref em, .int 0]))] := hD
    have hK : va_K D vwCl [] s := hK
    refine vx_widen (k := 1) (n := 6) (Nat.le_of_ble_eq_true rfl) (Nat.le_of_ble_eq_true rfl) ?_
    have hP9 := hP.sub (ws' := []) [] rfl
    have hD9 := hD.sub (ws' := []) [] (by decide) rfl
    have hK9 := hK.sub (tys' := []) [] rfl
    exact vx_out (fun x9 h9 => (htab x9 h9).elim) hlocks hce hcv hcl (tw_exc2 hP9 hK9 hD9 hS _ rfl) hS.2.2 (Nat.le_refl _) (Nat.le_refl _)
  · exact hw.elim
set_option maxHeartbeats 4000000 in
set_option maxRecDepth 100000 in
theorem c_X3_directionOf (l : Launch) (hst : l.stackTraces = false) (em kw kb : Nat) (D : va_G) (x : Nat) (p0 : Int32) (c1 : Nat) (ps1 : Nat) (lg : Nat) (sz : Nat) : vx_Met l yX3_directionOf wsX3_directionOf ({ frames := 7, cells := 1, slots := 6, locals := 103 }) (va_Pc [.ref x, .int p0] (tw_Pre em kw kb D sz [(x, .inr (7, [.ref c1, .ref ps1, .ref lg, .int 9, .int 99, .int 0, .int 0, .int 0, .int ((-1)), .int 0, .int 0, .long 0])), (c1, .inr (3, [.int 0, .ref em, .int 0]))] [])) (va_Qi (fun (r : Int32) (u : tw_U) => False) (tw_B D (va_A [(x, .inr (7, [.ref c1, .ref ps1, .ref lg, .int 9, .int 99, .int 0, .int 0, .int 0, .int ((-1)), .int 0, .int 0, .long 0])), (c1, .inr (3, [.int 0, .ref em, .int 0]))] sz)) (va_A [(x, .inr (7, [.ref c1, .ref ps1, .ref lg, .int 9, .int 99, .int 0, .int 0, .int 0, .int ((-1)), .int 0, .int 0, .long 0])), (c1, .inr (3, [.int 0, .ref em, .int 0]))] sz)) (vx_X (fun (u : String × tw_U) => u = ("java/lang/IndexOutOfBoundsException", (([], []) : tw_U))) (tw_BX D (va_A [(x, .inr (7, [.ref c1, .ref ps1, .ref lg, .int 9, .int 99, .int 0, .int 0, .int 0, .int ((-1)), .int 0, .int 0, .long 0])), (c1, .inr (3, [.int 0, .ref em, .int 0]))] sz)) (va_A [(x, .inr (7, [.ref c1, .ref ps1, .ref lg, .int 9, .int 99, .int 0, .int 0, .int 0, .int ((-1)), .int 0, .int 0, .long 0])), (c1, .inr (3, [.int 0, .ref em, .int 0]))] sz)) 1 6 (va_A [(x, .inr (7, [.ref c1, .ref ps1, .ref lg, .int 9, .int 99, .int 0, .int 0, .int 0, .int ((-1)), .int 0, .int 0, .long 0])), (c1, .inr (3, [.int 0, .ref em, .int 0]))] sz) := by
  refine vx_ofW (cc := cX3_directionOf) (maxL := 3) (ret := (some .char)) (by decide) rfl ?_
  intro p e s m args below meth c s₁ B hml htab hv
  obtain ⟨rfl, hsz, hP, hK, hD0, hF⟩ := hv
  have hx := B.exec
  have hb := B.bytes
  have hr := B.returns
  have hts := atoms_spec (ws := wsX3_directionOf) B.pre
  have hown : s.vm.findClass RX3 = some m.cls := findClass_of_methodNamed B.named
  have hlocks := B.notSynchronized
  subst hsz
  have hD := hD0.self (sz := s.heap.size)
  generalize hAe : va_A [(x, .inr (7, [.ref c1, .ref ps1, .ref lg, .int 9, .int 99, .int 0, .int 0, .int 0, .int ((-1)), .int 0, .int 0, .long 0])), (c1, .inr (3, [.int 0, .ref em, .int 0]))] s.heap.size = A at hD hF ⊢
  have hA : ∀ q : Nat, s.heap.size ≤ q → A q := fun q h => by rw [← hAe]; exact Or.inr h
  have hS : va_S A s.heap s.heap [] := va_S.rf
  have hP : va_P D vwCl [(x, .inr (7, [.ref c1, .ref ps1, .ref lg, .int 9, .int 99, .int 0, .int 0, .int 0, .int ((-1)), .int 0, .int 0, .long 0])), (c1, .inr (3, [.int 0, .ref em, .int 0]))] s.heap := hP
  have hl := lv_entry ([.ref x, .int p0]) (n := 3) (Nat.le_of_ble_eq_true rfl)
  rw [lg_entry_eq]
  generalize (lg_sl ([.ref x, .int p0]) ++ List.replicate (3 - (lg_sl ([.ref x, .int p0])).length) Slot.unset).toArray = ls at hl ⊢
  have hl : lv_has ls 3 [(0, .ref x), (1, .int p0)] := hl
  refine lv_aload_n hx hb dX3_directionOf_0 rfl (lv_at hl 0 rfl) ?_
  refine lv_iload_n hx hb dX3_directionOf_1 rfl (lv_at hl 1 rfl) ?_
  have hPc := hP.sub (ws' := [(x, .inr (7, [.ref c1, .ref ps1, .ref lg, .int 9, .int 99, .int 0, .int 0, .int 0, .int ((-1)), .int 0, .int 0, .long 0])), (c1, .inr (3, [.int 0, .ref em, .int 0]))]) [0, 1] rfl
  have hDc := hD.sub (ws' := [(x, .inr (7, [.ref c1, .ref ps1, .ref lg, .int 9, .int 99, .int 0, .int 0, .int 0, .int ((-1)), .int 0, .int 0, .long 0])), (c1, .inr (3, [.int 0, .ref em, .int 0]))]) [0, 1] (by decide) rfl
  have hKc := hK.sub (tys' := []) [] rfl
  have hFc := va_free (wc := [(x, .inr (7, [.ref c1, .ref ps1, .ref lg, .int 9, .int 99, .int 0, .int 0, .int 0, .int ((-1)), .int 0, .int 0, .long 0])), (c1, .inr (3, [.int 0, .ref em, .int 0]))]) hD hS hA [0, 1] rfl
  refine vx_callq (vx_runV (As := [.int p0]) (rest := []) ⟨hx, hb, hml, hown, hts⟩ (c_X3_carOf l hst em kw kb D x p0 c1 ps1 lg _) (cwV 1 hts gX3_directionOf_X3_carOf rfl rfl rfl (by decide +kernel) ⟨(Nat.le_of_ble_eq_true rfl), (Nat.le_of_ble_eq_true rfl)⟩) (tw_preV hF hS hFc hPc hKc hDc (va_recv hKc hPc (ci := 7) (q0 := 0) rfl rfl)) rfl rfl hl.1 rfl (lv_room (Nat.le_of_ble_eq_true rfl)) dX3_directionOf_2 ⟨(Nat.le_of_ble_eq_true rfl), (Nat.le_of_ble_eq_true rfl)⟩) hS (fun q _ h => hFc q h) hFc (fun q _ h => hFc q h) (fun E ce q9 u t H locs ht hvm hw hB hz1 hk1 hS hce hcv hcl => ?_) (fun r u t H locs ht hvm hw hB hz1 hk1 hS => ?_)
  · obtain ⟨hE, hB⟩ := hB
    subst hw
    subst hE
    obtain ⟨hP, hD, hK⟩ := tw_join (wr := []) hP hD hK [0, 1] [] rfl rfl (by decide) (by decide) hk1 hFc ht hvm hB
    have hP : va_P D vwCl [(x, .inr (7, [.ref c1, .ref ps1, .ref lg, .int 9, .int 99, .int 0, .int 0, .int 0, .int ((-1)), .int 0, .int 0, .long 0])), (c1, .inr (3, [.int 0, .ref em, .int 0]))] _ := hP
    have hD : va_D A [(x, .inr (7, [.ref c1, .ref ps1, .ref lg, .int 9, .int 99, .int 0, .int 0, .int 0, .int ((-1)), .int 0, .int 0, .long 0])), (c1, .inr (3, [.int 0, .ref em, .int 0]))] := hD
    have hK : va_K D vwCl [] s := hK
    refine vx_widen (k := 1) (n := 6) (Nat.le_of_ble_eq_true rfl) (Nat.le_of_ble_eq_true rfl) ?_
    have hP9 := hP.sub (ws' := []) [] rfl
    have hD9 := hD.sub (ws' := []) [] (by decide) rfl
    have hK9 := hK.sub (tys' := []) [] rfl
    exact vx_out (fun x9 h9 => (htab x9 h9).elim) hlocks hce hcv hcl (tw_exc2 hP9 hK9 hD9 hS _ rfl) hS.2.2 (Nat.le_refl _) (Nat.le_refl _)
  · exact hw.elim
set_option maxHeartbeats 4000000 in
set_option maxRecDepth 100000 in
theorem c_X3_isOpen (l : Launch) (hst : l.stackTraces = false) (em kw kb : Nat) (D : va_G) (x : Nat) (p0 : Int32) (c1 : Nat) (ps1 : Nat) (lg : Nat) (sz : Nat) : vx_Met l yX3_isOpen wsX3_isOpen ({ frames := 7, cells := 1, slots := 6, locals := 103 }) (va_Pc [.ref x, .int p0] (tw_Pre em kw kb D sz [(x, .inr (7, [.ref c1, .ref ps1, .ref lg, .int 9, .int 99, .int 0, .int 0, .int 0, .int ((-1)), .int 0, .int 0, .long 0])), (c1, .inr (3, [.int 0, .ref em, .int 0]))] [])) (va_Qi (fun (r : Int32) (u : tw_U) => False) (tw_B D (va_A [(x, .inr (7, [.ref c1, .ref ps1, .ref lg, .int 9, .int 99, .int 0, .int 0, .int 0, .int ((-1)), .int 0, .int 0, .long 0])), (c1, .inr (3, [.int 0, .ref em, .int 0]))] sz)) (va_A [(x, .inr (7, [.ref c1, .ref ps1, .ref lg, .int 9, .int 99, .int 0, .int 0, .int 0, .int ((-1)), .int 0, .int 0, .long 0])), (c1, .inr (3, [.int 0, .ref em, .int 0]))] sz)) (vx_X (fun (u : String × tw_U) => u = ("java/lang/IndexOutOfBoundsException", (([], []) : tw_U))) (tw_BX D (va_A [(x, .inr (7, [.ref c1, .ref ps1, .ref lg, .int 9, .int 99, .int 0, .int 0, .int 0, .int ((-1)), .int 0, .int 0, .long 0])), (c1, .inr (3, [.int 0, .ref em, .int 0]))] sz)) (va_A [(x, .inr (7, [.ref c1, .ref ps1, .ref lg, .int 9, .int 99, .int 0, .int 0, .int 0, .int ((-1)), .int 0, .int 0, .long 0])), (c1, .inr (3, [.int 0, .ref em, .int 0]))] sz)) 1 6 (va_A [(x, .inr (7, [.ref c1, .ref ps1, .ref lg, .int 9, .int 99, .int 0, .int 0, .int 0, .int ((-1)), .int 0, .int 0, .long 0])), (c1, .inr (3, [.int 0, .ref em, .int 0]))] sz) := by
  refine vx_ofW (cc := cX3_isOpen) (maxL := 2) (ret := (some .boolean)) (by decide) rfl ?_
  intro p e s m args below meth c s₁ B hml htab hv
  obtain ⟨rfl, hsz, hP, hK, hD0, hF⟩ := hv
  have hx := B.exec
  have hb := B.bytes
  have hr := B.returns
  have hts := atoms_spec (ws := wsX3_isOpen) B.pre
  have hown : s.vm.findClass RX3 = some m.cls := findClass_of_methodNamed B.named
  have hlocks := B.notSynchronized
  subst hsz
  have hD := hD0.self (sz := s.heap.size)
  generalize hAe : va_A [(x, .inr (7, [.ref c1, .ref ps1, .ref lg, .int 9, .int 99, .int 0, .int 0, .int 0, .int ((-1)), .int 0, .int 0, .long 0])), (c1, .inr (3, [.int 0, .ref em, .int 0]))] s.heap.size = A at hD hF ⊢
  have hA : ∀ q : Nat, s.heap.size ≤ q → A q := fun q h => by rw [← hAe]; exact Or.inr h
  have hS : va_S A s.heap s.heap [] := va_S.rf
  have hP : va_P D vwCl [(x, .inr (7, [.ref c1, .ref ps1, .ref lg, .int 9, .int 99, .int 0, .int 0, .int 0, .int ((-1)), .int 0, .int 0, .long 0])), (c1, .inr (3, [.int 0, .ref em, .int 0]))] s.heap := hP
  have hl := lv_entry ([.ref x, .int p0]) (n := 2) (Nat.le_of_ble_eq_true rfl)
  rw [lg_entry_eq]
  generalize (lg_sl ([.ref x, .int p0]) ++ List.replicate (2 - (lg_sl ([.ref x, .int p0])).length) Slot.unset).toArray = ls at hl ⊢
  have hl : lv_has ls 2 [(0, .ref x), (1, .int p0)] := hl
  refine lv_aload_n hx hb dX3_isOpen_0 rfl (lv_at hl 0 rfl) ?_
  refine lv_iload_n hx hb dX3_isOpen_1 rfl (lv_at hl 1 rfl) ?_
  have hPc := hP.sub (ws' := [(x, .inr (7, [.ref c1, .ref ps1, .ref lg, .int 9, .int 99, .int 0, .int 0, .int 0, .int ((-1)), .int 0, .int 0, .long 0])), (c1, .inr (3, [.int 0, .ref em, .int 0]))]) [0, 1] rfl
  have hDc := hD.sub (ws' := [(x, .inr (7, [.ref c1, .ref ps1, .ref lg, .int 9, .int 99, .int 0, .int 0, .int 0, .int ((-1)), .int 0, .int 0, .long 0])), (c1, .inr (3, [.int 0, .ref em, .int 0]))]) [0, 1] (by decide) rfl
  have hKc := hK.sub (tys' := []) [] rfl
  have hFc := va_free (wc := [(x, .inr (7, [.ref c1, .ref ps1, .ref lg, .int 9, .int 99, .int 0, .int 0, .int 0, .int ((-1)), .int 0, .int 0, .long 0])), (c1, .inr (3, [.int 0, .ref em, .int 0]))]) hD hS hA [0, 1] rfl
  refine vx_callq (vx_runV (As := [.int p0]) (rest := []) ⟨hx, hb, hml, hown, hts⟩ (c_X3_carOf l hst em kw kb D x p0 c1 ps1 lg _) (cwV 1 hts gX3_isOpen_X3_carOf rfl rfl rfl (by decide +kernel) ⟨(Nat.le_of_ble_eq_true rfl), (Nat.le_of_ble_eq_true rfl)⟩) (tw_preV hF hS hFc hPc hKc hDc (va_recv hKc hPc (ci := 7) (q0 := 0) rfl rfl)) rfl rfl hl.1 rfl (lv_room (Nat.le_of_ble_eq_true rfl)) dX3_isOpen_2 ⟨(Nat.le_of_ble_eq_true rfl), (Nat.le_of_ble_eq_true rfl)⟩) hS (fun q _ h => hFc q h) hFc (fun q _ h => hFc q h) (fun E ce q9 u t H locs ht hvm hw hB hz1 hk1 hS hce hcv hcl => ?_) (fun r u t H locs ht hvm hw hB hz1 hk1 hS => ?_)
  · obtain ⟨hE, hB⟩ := hB
    subst hw
    subst hE
    obtain ⟨hP, hD, hK⟩ := tw_join (wr := []) hP hD hK [0, 1] [] rfl rfl (by decide) (by decide) hk1 hFc ht hvm hB
    have hP : va_P D vwCl [(x, .inr (7, [.ref c1, .ref ps1, .ref lg, .int 9, .int 99, .int 0, .int 0, .int 0, .int ((-1)), .int 0, .int 0, .long 0])), (c1, .inr (3, [.int 0, .ref em, .int 0]))] _ := hP
    have hD : va_D A [(x, .inr (7, [.ref c1, .ref ps1, .ref lg, .int 9, .int 99, .int 0, .int 0, .int 0, .int ((-1)), .int 0, .int 0, .long 0])), (c1, .inr (3, [.int 0, .ref em, .int 0]))] := hD
    have hK : va_K D vwCl [] s := hK
    refine vx_widen (k := 1) (n := 6) (Nat.le_of_ble_eq_true rfl) (Nat.le_of_ble_eq_true rfl) ?_
    have hP9 := hP.sub (ws' := []) [] rfl
    have hD9 := hD.sub (ws' := []) [] (by decide) rfl
    have hK9 := hK.sub (tys' := []) [] rfl
    exact vx_out (fun x9 h9 => (htab x9 h9).elim) hlocks hce hcv hcl (tw_exc2 hP9 hK9 hD9 hS _ rfl) hS.2.2 (Nat.le_refl _) (Nat.le_refl _)
  · exact hw.elim
set_option maxHeartbeats 4000000 in
set_option maxRecDepth 100000 in
theorem c_X3_load (l : Launch) (hst : l.stackTraces = false) (em kw kb : Nat) (D : va_G) (x : Nat) (p0 : Int32) (c1 : Nat) (ps1 : Nat) (lg : Nat) (sz : Nat) : vx_Met l yX3_load wsX3_load ({ frames := 7, cells := 1, slots := 6, locals := 103 }) (va_Pc [.ref x, .int p0] (tw_Pre em kw kb D sz [(x, .inr (7, [.ref c1, .ref ps1, .ref lg, .int 9, .int 99, .int 0, .int 0, .int 0, .int ((-1)), .int 0, .int 0, .long 0])), (c1, .inr (3, [.int 0, .ref em, .int 0]))] [])) (va_Qi (fun (r : Int32) (u : tw_U) => False) (tw_B D (va_A [(x, .inr (7, [.ref c1, .ref ps1, .ref lg, .int 9, .int 99, .int 0, .int 0, .int 0, .int ((-1)), .int 0, .int 0, .long 0])), (c1, .inr (3, [.int 0, .ref em, .int 0]))] sz)) (va_A [(x, .inr (7, [.ref c1, .ref ps1, .ref lg, .int 9, .int 99, .int 0, .int 0, .int 0, .int ((-1)), .int 0, .int 0, .long 0])), (c1, .inr (3, [.int 0, .ref em, .int 0]))] sz)) (vx_X (fun (u : String × tw_U) => u = ("java/lang/IndexOutOfBoundsException", (([], []) : tw_U))) (tw_BX D (va_A [(x, .inr (7, [.ref c1, .ref ps1, .ref lg, .int 9, .int 99, .int 0, .int 0, .int 0, .int ((-1)), .int 0, .int 0, .long 0])), (c1, .inr (3, [.int 0, .ref em, .int 0]))] sz)) (va_A [(x, .inr (7, [.ref c1, .ref ps1, .ref lg, .int 9, .int 99, .int 0, .int 0, .int 0, .int ((-1)), .int 0, .int 0, .long 0])), (c1, .inr (3, [.int 0, .ref em, .int 0]))] sz)) 1 6 (va_A [(x, .inr (7, [.ref c1, .ref ps1, .ref lg, .int 9, .int 99, .int 0, .int 0, .int 0, .int ((-1)), .int 0, .int 0, .long 0])), (c1, .inr (3, [.int 0, .ref em, .int 0]))] sz) := by
  refine vx_ofW (cc := cX3_load) (maxL := 2) (ret := (some .int)) (by decide) rfl ?_
  intro p e s m args below meth c s₁ B hml htab hv
  obtain ⟨rfl, hsz, hP, hK, hD0, hF⟩ := hv
  have hx := B.exec
  have hb := B.bytes
  have hr := B.returns
  have hts := atoms_spec (ws := wsX3_load) B.pre
  have hown : s.vm.findClass RX3 = some m.cls := findClass_of_methodNamed B.named
  have hlocks := B.notSynchronized
  subst hsz
  have hD := hD0.self (sz := s.heap.size)
  generalize hAe : va_A [(x, .inr (7, [.ref c1, .ref ps1, .ref lg, .int 9, .int 99, .int 0, .int 0, .int 0, .int ((-1)), .int 0, .int 0, .long 0])), (c1, .inr (3, [.int 0, .ref em, .int 0]))] s.heap.size = A at hD hF ⊢
  have hA : ∀ q : Nat, s.heap.size ≤ q → A q := fun q h => by rw [← hAe]; exact Or.inr h
  have hS : va_S A s.heap s.heap [] := va_S.rf
  have hP : va_P D vwCl [(x, .inr (7, [.ref c1, .ref ps1, .ref lg, .int 9, .int 99, .int 0, .int 0, .int 0, .int ((-1)), .int 0, .int 0, .long 0])), (c1, .inr (3, [.int 0, .ref em, .int 0]))] s.heap := hP
  have hl := lv_entry ([.ref x, .int p0]) (n := 2) (Nat.le_of_ble_eq_true rfl)
  rw [lg_entry_eq]
  generalize (lg_sl ([.ref x, .int p0]) ++ List.replicate (2 - (lg_sl ([.ref x, .int p0])).length) Slot.unset).toArray = ls at hl ⊢
  have hl : lv_has ls 2 [(0, .ref x), (1, .int p0)] := hl
  refine lv_aload_n hx hb dX3_load_0 rfl (lv_at hl 0 rfl) ?_
  refine lv_iload_n hx hb dX3_load_1 rfl (lv_at hl 1 rfl) ?_
  have hPc := hP.sub (ws' := [(x, .inr (7, [.ref c1, .ref ps1, .ref lg, .int 9, .int 99, .int 0, .int 0, .int 0, .int ((-1)), .int 0, .int 0, .long 0])), (c1, .inr (3, [.int 0, .ref em, .int 0]))]) [0, 1] rfl
  have hDc := hD.sub (ws' := [(x, .inr (7, [.ref c1, .ref ps1, .ref lg, .int 9, .int 99, .int 0, .int 0, .int 0, .int ((-1)), .int 0, .int 0, .long 0])), (c1, .inr (3, [.int 0, .ref em, .int 0]))]) [0, 1] (by decide) rfl
  have hKc := hK.sub (tys' := []) [] rfl
  have hFc := va_free (wc := [(x, .inr (7, [.ref c1, .ref ps1, .ref lg, .int 9, .int 99, .int 0, .int 0, .int 0, .int ((-1)), .int 0, .int 0, .long 0])), (c1, .inr (3, [.int 0, .ref em, .int 0]))]) hD hS hA [0, 1] rfl
  refine vx_callq (vx_runV (As := [.int p0]) (rest := []) ⟨hx, hb, hml, hown, hts⟩ (c_X3_carOf l hst em kw kb D x p0 c1 ps1 lg _) (cwV 1 hts gX3_load_X3_carOf rfl rfl rfl (by decide +kernel) ⟨(Nat.le_of_ble_eq_true rfl), (Nat.le_of_ble_eq_true rfl)⟩) (tw_preV hF hS hFc hPc hKc hDc (va_recv hKc hPc (ci := 7) (q0 := 0) rfl rfl)) rfl rfl hl.1 rfl (lv_room (Nat.le_of_ble_eq_true rfl)) dX3_load_2 ⟨(Nat.le_of_ble_eq_true rfl), (Nat.le_of_ble_eq_true rfl)⟩) hS (fun q _ h => hFc q h) hFc (fun q _ h => hFc q h) (fun E ce q9 u t H locs ht hvm hw hB hz1 hk1 hS hce hcv hcl => ?_) (fun r u t H locs ht hvm hw hB hz1 hk1 hS => ?_)
  · obtain ⟨hE, hB⟩ := hB
    subst hw
    subst hE
    obtain ⟨hP, hD, hK⟩ := tw_join (wr := []) hP hD hK [0, 1] [] rfl rfl (by decide) (by decide) hk1 hFc ht hvm hB
    have hP : va_P D vwCl [(x, .inr (7, [.ref c1, .ref ps1, .ref lg, .int 9, .int 99, .int 0, .int 0, .int 0, .int ((-1)), .int 0, .int 0, .long 0])), (c1, .inr (3, [.int 0, .ref em, .int 0]))] _ := hP
    have hD : va_D A [(x, .inr (7, [.ref c1, .ref ps1, .ref lg, .int 9, .int 99, .int 0, .int 0, .int 0, .int ((-1)), .int 0, .int 0, .long 0])), (c1, .inr (3, [.int 0, .ref em, .int 0]))] := hD
    have hK : va_K D vwCl [] s := hK
    refine vx_widen (k := 1) (n := 6) (Nat.le_of_ble_eq_true rfl) (Nat.le_of_ble_eq_true rfl) ?_
    have hP9 := hP.sub (ws' := []) [] rfl
    have hD9 := hD.sub (ws' := []) [] (by decide) rfl
    have hK9 := hK.sub (tys' := []) [] rfl
    exact vx_out (fun x9 h9 => (htab x9 h9).elim) hlocks hce hcv hcl (tw_exc2 hP9 hK9 hD9 hS _ rfl) hS.2.2 (Nat.le_refl _) (Nat.le_refl _)
  · exact hw.elim
set_option maxHeartbeats 4000000 in
set_option maxRecDepth 100000 in
theorem c_X3_stops (l : Launch) (hst : l.stackTraces = false) (em kw kb : Nat) (D : va_G) (x : Nat) (p0 : Int32) (c1 : Nat) (ps1 : Nat) (lg : Nat) (sz : Nat) : vx_Met l yX3_stops wsX3_stops ({ frames := 7, cells := 1, slots := 6, locals := 103 }) (va_Pc [.ref x, .int p0] (tw_Pre em kw kb D sz [(x, .inr (7, [.ref c1, .ref ps1, .ref lg, .int 9, .int 99, .int 0, .int 0, .int 0, .int ((-1)), .int 0, .int 0, .long 0])), (c1, .inr (3, [.int 0, .ref em, .int 0]))] [])) (va_Qi (fun (r : Int32) (u : tw_U) => False) (tw_B D (va_A [(x, .inr (7, [.ref c1, .ref ps1, .ref lg, .int 9, .int 99, .int 0, .int 0, .int 0, .int ((-1)), .int 0, .int 0, .long 0])), (c1, .inr (3, [.int 0, .ref em, .int 0]))] sz)) (va_A [(x, .inr (7, [.ref c1, .ref ps1, .ref lg, .int 9, .int 99, .int 0, .int 0, .int 0, .int ((-1)), .int 0, .int 0, .long 0])), (c1, .inr (3, [.int 0, .ref em, .int 0]))] sz)) (vx_X (fun (u : String × tw_U) => u = ("java/lang/IndexOutOfBoundsException", (([], []) : tw_U))) (tw_BX D (va_A [(x, .inr (7, [.ref c1, .ref ps1, .ref lg, .int 9, .int 99, .int 0, .int 0, .int 0, .int ((-1)), .int 0, .int 0, .long 0])), (c1, .inr (3, [.int 0, .ref em, .int 0]))] sz)) (va_A [(x, .inr (7, [.ref c1, .ref ps1, .ref lg, .int 9, .int 99, .int 0, .int 0, .int 0, .int ((-1)), .int 0, .int 0, .long 0])), (c1, .inr (3, [.int 0, .ref em, .int 0]))] sz)) 1 6 (va_A [(x, .inr (7, [.ref c1, .ref ps1, .ref lg, .int 9, .int 99, .int 0, .int 0, .int 0, .int ((-1)), .int 0, .int 0, .long 0])), (c1, .inr (3, [.int 0, .ref em, .int 0]))] sz) := by
  refine vx_ofW (cc := cX3_stops) (maxL := 2) (ret := (some .int)) (by decide) rfl ?_
  intro p e s m args below meth c s₁ B hml htab hv
  obtain ⟨rfl, hsz, hP, hK, hD0, hF⟩ := hv
  have hx := B.exec
  have hb := B.bytes
  have hr := B.returns
  have hts := atoms_spec (ws := wsX3_stops) B.pre
  have hown : s.vm.findClass RX3 = some m.cls := findClass_of_methodNamed B.named
  have hlocks := B.notSynchronized
  subst hsz
  have hD := hD0.self (sz := s.heap.size)
  generalize hAe : va_A [(x, .inr (7, [.ref c1, .ref ps1, .ref lg, .int 9, .int 99, .int 0, .int 0, .int 0, .int ((-1)), .int 0, .int 0, .long 0])), (c1, .inr (3, [.int 0, .ref em, .int 0]))] s.heap.size = A at hD hF ⊢
  have hA : ∀ q : Nat, s.heap.size ≤ q → A q := fun q h => by rw [← hAe]; exact Or.inr h
  have hS : va_S A s.heap s.heap [] := va_S.rf
  have hP : va_P D vwCl [(x, .inr (7, [.ref c1, .ref ps1, .ref lg, .int 9, .int 99, .int 0, .int 0, .int 0, .int ((-1)), .int 0, .int 0, .long 0])), (c1, .inr (3, [.int 0, .ref em, .int 0]))] s.heap := hP
  have hl := lv_entry ([.ref x, .int p0]) (n := 2) (Nat.le_of_ble_eq_true rfl)
  rw [lg_entry_eq]
  generalize (lg_sl ([.ref x, .int p0]) ++ List.replicate (2 - (lg_sl ([.ref x, .int p0])).length) Slot.unset).toArray = ls at hl ⊢
  have hl : lv_has ls 2 [(0, .ref x), (1, .int p0)] := hl
  refine lv_aload_n hx hb dX3_stops_0 rfl (lv_at hl 0 rfl) ?_
  refine lv_iload_n hx hb dX3_stops_1 rfl (lv_at hl 1 rfl) ?_
  have hPc := hP.sub (ws' := [(x, .inr (7, [.ref c1, .ref ps1, .ref lg, .int 9, .int 99, .int 0, .int 0, .int 0, .int ((-1)), .int 0, .int 0, .long 0])), (c1, .inr (3, [.int 0, .ref em, .int 0]))]) [0, 1] rfl
  have hDc := hD.sub (ws' := [(x, .inr (7, [.ref c1, .ref ps1, .ref lg, .int 9, .int 99, .int 0, .int 0, .int 0, .int ((-1)), .int 0, .int 0, .long 0])), (c1, .inr (3, [.int 0, .ref em, .int 0]))]) [0, 1] (by decide) rfl
  have hKc := hK.sub (tys' := []) [] rfl
  have hFc := va_free (wc := [(x, .inr (7, [.ref c1, .ref ps1, .ref lg, .int 9, .int 99, .int 0, .int 0, .int 0, .int ((-1)), .int 0, .int 0, .long 0])), (c1, .inr (3, [.int 0, .ref em, .int 0]))]) hD hS hA [0, 1] rfl
  refine vx_callq (vx_runV (As := [.int p0]) (rest := []) ⟨hx, hb, hml, hown, hts⟩ (c_X3_carOf l hst em kw kb D x p0 c1 ps1 lg _) (cwV 1 hts gX3_stops_X3_carOf rfl rfl rfl (by decide +kernel) ⟨(Nat.le_of_ble_eq_true rfl), (Nat.le_of_ble_eq_true rfl)⟩) (tw_preV hF hS hFc hPc hKc hDc (va_recv hKc hPc (ci := 7) (q0 := 0) rfl rfl)) rfl rfl hl.1 rfl (lv_room (Nat.le_of_ble_eq_true rfl)) dX3_stops_2 ⟨(Nat.le_of_ble_eq_true rfl), (Nat.le_of_ble_eq_true rfl)⟩) hS (fun q _ h => hFc q h) hFc (fun q _ h => hFc q h) (fun E ce q9 u t H locs ht hvm hw hB hz1 hk1 hS hce hcv hcl => ?_) (fun r u t H locs ht hvm hw hB hz1 hk1 hS => ?_)
  · obtain ⟨hE, hB⟩ := hB
    subst hw
    subst hE
    obtain ⟨hP, hD, hK⟩ := tw_join (wr := []) hP hD hK [0, 1] [] rfl rfl (by decide) (by decide) hk1 hFc ht hvm hB
    have hP : va_P D vwCl [(x, .inr (7, [.ref c1, .ref ps1, .ref lg, .int 9, .int 99, .int 0, .int 0, .int 0, .int ((-1)), .int 0, .int 0, .long 0])), (c1, .inr (3, [.int 0, .ref em, .int 0]))] _ := hP
    have hD : va_D A [(x, .inr (7, [.ref c1, .ref ps1, .ref lg, .int 9, .int 99, .int 0, .int 0, .int 0, .int ((-1)), .int 0, .int 0, .long 0])), (c1, .inr (3, [.int 0, .ref em, .int 0]))] := hD
    have hK : va_K D vwCl [] s := hK
    refine vx_widen (k := 1) (n := 6) (Nat.le_of_ble_eq_true rfl) (Nat.le_of_ble_eq_true rfl) ?_
    have hP9 := hP.sub (ws' := []) [] rfl
    have hD9 := hD.sub (ws' := []) [] (by decide) rfl
    have hK9 := hK.sub (tys' := []) [] rfl
    exact vx_out (fun x9 h9 => (htab x9 h9).elim) hlocks hce hcv hcl (tw_exc2 hP9 hK9 hD9 hS _ rfl) hS.2.2 (Nat.le_refl _) (Nat.le_refl _)
  · exact hw.elim
set_option maxHeartbeats 4000000 in
set_option maxRecDepth 100000 in
theorem c_X3_timeFor (l : Launch) (hst : l.stackTraces = false) (em kw kb : Nat) (D : va_G) (x : Nat) (p0 : Int32) (p1 : Int32) (p2 : Int32) (c1 : Nat) (ps1 : Nat) (lg : Nat) (sz : Nat) : vx_Met l yX3_timeFor wsX3_timeFor ({ frames := 7, cells := 1, slots := 6, locals := 103 }) (va_Pc [.ref x, .int p0, .int p1, .int p2] (tw_Pre em kw kb D sz [(x, .inr (7, [.ref c1, .ref ps1, .ref lg, .int 9, .int 99, .int 0, .int 0, .int 0, .int ((-1)), .int 0, .int 0, .long 0])), (c1, .inr (3, [.int 0, .ref em, .int 0]))] [])) (va_Qi (fun (r : Int32) (u : tw_U) => False) (tw_B D (va_A [(x, .inr (7, [.ref c1, .ref ps1, .ref lg, .int 9, .int 99, .int 0, .int 0, .int 0, .int ((-1)), .int 0, .int 0, .long 0])), (c1, .inr (3, [.int 0, .ref em, .int 0]))] sz)) (va_A [(x, .inr (7, [.ref c1, .ref ps1, .ref lg, .int 9, .int 99, .int 0, .int 0, .int 0, .int ((-1)), .int 0, .int 0, .long 0])), (c1, .inr (3, [.int 0, .ref em, .int 0]))] sz)) (vx_X (fun (u : String × tw_U) => u = ("java/lang/IndexOutOfBoundsException", (([], []) : tw_U))) (tw_BX D (va_A [(x, .inr (7, [.ref c1, .ref ps1, .ref lg, .int 9, .int 99, .int 0, .int 0, .int 0, .int ((-1)), .int 0, .int 0, .long 0])), (c1, .inr (3, [.int 0, .ref em, .int 0]))] sz)) (va_A [(x, .inr (7, [.ref c1, .ref ps1, .ref lg, .int 9, .int 99, .int 0, .int 0, .int 0, .int ((-1)), .int 0, .int 0, .long 0])), (c1, .inr (3, [.int 0, .ref em, .int 0]))] sz)) 1 6 (va_A [(x, .inr (7, [.ref c1, .ref ps1, .ref lg, .int 9, .int 99, .int 0, .int 0, .int 0, .int ((-1)), .int 0, .int 0, .long 0])), (c1, .inr (3, [.int 0, .ref em, .int 0]))] sz) := by
  refine vx_ofW (cc := cX3_timeFor) (maxL := 5) (ret := (some .int)) (by decide) rfl ?_
  intro p e s m args below meth c s₁ B hml htab hv
  obtain ⟨rfl, hsz, hP, hK, hD0, hF⟩ := hv
  have hx := B.exec
  have hb := B.bytes
  have hr := B.returns
  have hts := atoms_spec (ws := wsX3_timeFor) B.pre
  have hown : s.vm.findClass RX3 = some m.cls := findClass_of_methodNamed B.named
  have hlocks := B.notSynchronized
  subst hsz
  have hD := hD0.self (sz := s.heap.size)
  generalize hAe : va_A [(x, .inr (7, [.ref c1, .ref ps1, .ref lg, .int 9, .int 99, .int 0, .int 0, .int 0, .int ((-1)), .int 0, .int 0, .long 0])), (c1, .inr (3, [.int 0, .ref em, .int 0]))] s.heap.size = A at hD hF ⊢
  have hA : ∀ q : Nat, s.heap.size ≤ q → A q := fun q h => by rw [← hAe]; exact Or.inr h
  have hS : va_S A s.heap s.heap [] := va_S.rf
  have hP : va_P D vwCl [(x, .inr (7, [.ref c1, .ref ps1, .ref lg, .int 9, .int 99, .int 0, .int 0, .int 0, .int ((-1)), .int 0, .int 0, .long 0])), (c1, .inr (3, [.int 0, .ref em, .int 0]))] s.heap := hP
  have hl := lv_entry ([.ref x, .int p0, .int p1, .int p2]) (n := 5) (Nat.le_of_ble_eq_true rfl)
  rw [lg_entry_eq]
  generalize (lg_sl ([.ref x, .int p0, .int p1, .int p2]) ++ List.replicate (5 - (lg_sl ([.ref x, .int p0, .int p1, .int p2])).length) Slot.unset).toArray = ls at hl ⊢
  have hl : lv_has ls 5 [(0, .ref x), (1, .int p0), (2, .int p1), (3, .int p2)] := hl
  refine lv_aload_n hx hb dX3_timeFor_0 rfl (lv_at hl 0 rfl) ?_
  refine lv_iload_n hx hb dX3_timeFor_1 rfl (lv_at hl 1 rfl) ?_
  have hPc := hP.sub (ws' := [(x, .inr (7, [.ref c1, .ref ps1, .ref lg, .int 9, .int 99, .int 0, .int 0, .int 0, .int ((-1)), .int 0, .int 0, .long 0])), (c1, .inr (3, [.int 0, .ref em, .int 0]))]) [0, 1] rfl
  have hDc := hD.sub (ws' := [(x, .inr (7, [.ref c1, .ref ps1, .ref lg, .int 9, .int 99, .int 0, .int 0, .int 0, .int ((-1)), .int 0, .int 0, .long 0])), (c1, .inr (3, [.int 0, .ref em, .int 0]))]) [0, 1] (by decide) rfl
  have hKc := hK.sub (tys' := []) [] rfl
  have hFc := va_free (wc := [(x, .inr (7, [.ref c1, .ref ps1, .ref lg, .int 9, .int 99, .int 0, .int 0, .int 0, .int ((-1)), .int 0, .int 0, .long 0])), (c1, .inr (3, [.int 0, .ref em, .int 0]))]) hD hS hA [0, 1] rfl
  refine vx_callq (vx_runV (As := [.int p0]) (rest := []) ⟨hx, hb, hml, hown, hts⟩ (c_X3_carOf l hst em kw kb D x p0 c1 ps1 lg _) (cwV 1 hts gX3_timeFor_X3_carOf rfl rfl rfl (by decide +kernel) ⟨(Nat.le_of_ble_eq_true rfl), (Nat.le_of_ble_eq_true rfl)⟩) (tw_preV hF hS hFc hPc hKc hDc (va_recv hKc hPc (ci := 7) (q0 := 0) rfl rfl)) rfl rfl hl.1 rfl (lv_room (Nat.le_of_ble_eq_true rfl)) dX3_timeFor_2 ⟨(Nat.le_of_ble_eq_true rfl), (Nat.le_of_ble_eq_true rfl)⟩) hS (fun q _ h => hFc q h) hFc (fun q _ h => hFc q h) (fun E ce q9 u t H locs ht hvm hw hB hz1 hk1 hS hce hcv hcl => ?_) (fun r u t H locs ht hvm hw hB hz1 hk1 hS => ?_)
  · obtain ⟨hE, hB⟩ := hB
    subst hw
    subst hE
    obtain ⟨hP, hD, hK⟩ := tw_join (wr := []) hP hD hK [0, 1] [] rfl rfl (by decide) (by decide) hk1 hFc ht hvm hB
    have hP : va_P D vwCl [(x, .inr (7, [.ref c1, .ref ps1, .ref lg, .int 9, .int 99, .int 0, .int 0, .int 0, .int ((-1)), .int 0, .int 0, .long 0])), (c1, .inr (3, [.int 0, .ref em, .int 0]))] _ := hP
    have hD : va_D A [(x, .inr (7, [.ref c1, .ref ps1, .ref lg, .int 9, .int 99, .int 0, .int 0, .int 0, .int ((-1)), .int 0, .int 0, .long 0])), (c1, .inr (3, [.int 0, .ref em, .int 0]))] := hD
    have hK : va_K D vwCl [] s := hK
    refine vx_widen (k := 1) (n := 6) (Nat.le_of_ble_eq_true rfl) (Nat.le_of_ble_eq_true rfl) ?_
    have hP9 := hP.sub (ws' := []) [] rfl
    have hD9 := hD.sub (ws' := []) [] (by decide) rfl
    have hK9 := hK.sub (tys' := []) [] rfl
    exact vx_out (fun x9 h9 => (htab x9 h9).elim) hlocks hce hcv hcl (tw_exc2 hP9 hK9 hD9 hS _ rfl) hS.2.2 (Nat.le_refl _) (Nat.le_refl _)
  · exact hw.elim
set_option maxHeartbeats 4000000 in
set_option maxRecDepth 100000 in
theorem c_X3_priceFor (l : Launch) (hst : l.stackTraces = false) (em kw kb : Nat) (D : va_G) (x : Nat) (p0 : Int32) (p1 : Int32) (p2 : Int32) (c1 : Nat) (ps1 : Nat) (lg : Nat) (sz : Nat) : vx_Met l yX3_priceFor wsX3_priceFor ({ frames := 7, cells := 1, slots := 6, locals := 103 }) (va_Pc [.ref x, .int p0, .int p1, .int p2] (tw_Pre em kw kb D sz [(x, .inr (7, [.ref c1, .ref ps1, .ref lg, .int 9, .int 99, .int 0, .int 0, .int 0, .int ((-1)), .int 0, .int 0, .long 0])), (c1, .inr (3, [.int 0, .ref em, .int 0]))] [])) (va_Qi (fun (r : Int32) (u : tw_U) => False) (tw_B D (va_A [(x, .inr (7, [.ref c1, .ref ps1, .ref lg, .int 9, .int 99, .int 0, .int 0, .int 0, .int ((-1)), .int 0, .int 0, .long 0])), (c1, .inr (3, [.int 0, .ref em, .int 0]))] sz)) (va_A [(x, .inr (7, [.ref c1, .ref ps1, .ref lg, .int 9, .int 99, .int 0, .int 0, .int 0, .int ((-1)), .int 0, .int 0, .long 0])), (c1, .inr (3, [.int 0, .ref em, .int 0]))] sz)) (vx_X (fun (u : String × tw_U) => u = ("java/lang/IndexOutOfBoundsException", (([], []) : tw_U))) (tw_BX D (va_A [(x, .inr (7, [.ref c1, .ref ps1, .ref lg, .int 9, .int 99, .int 0, .int 0, .int 0, .int ((-1)), .int 0, .int 0, .long 0])), (c1, .inr (3, [.int 0, .ref em, .int 0]))] sz)) (va_A [(x, .inr (7, [.ref c1, .ref ps1, .ref lg, .int 9, .int 99, .int 0, .int 0, .int 0, .int ((-1)), .int 0, .int 0, .long 0])), (c1, .inr (3, [.int 0, .ref em, .int 0]))] sz)) 1 6 (va_A [(x, .inr (7, [.ref c1, .ref ps1, .ref lg, .int 9, .int 99, .int 0, .int 0, .int 0, .int ((-1)), .int 0, .int 0, .long 0])), (c1, .inr (3, [.int 0, .ref em, .int 0]))] sz) := by
  refine vx_ofW (cc := cX3_priceFor) (maxL := 5) (ret := (some .int)) (by decide) rfl ?_
  intro p e s m args below meth c s₁ B hml htab hv
  obtain ⟨rfl, hsz, hP, hK, hD0, hF⟩ := hv
  have hx := B.exec
  have hb := B.bytes
  have hr := B.returns
  have hts := atoms_spec (ws := wsX3_priceFor) B.pre
  have hown : s.vm.findClass RX3 = some m.cls := findClass_of_methodNamed B.named
  have hlocks := B.notSynchronized
  subst hsz
  have hD := hD0.self (sz := s.heap.size)
  generalize hAe : va_A [(x, .inr (7, [.ref c1, .ref ps1, .ref lg, .int 9, .int 99, .int 0, .int 0, .int 0, .int ((-1)), .int 0, .int 0, .long 0])), (c1, .inr (3, [.int 0, .ref em, .int 0]))] s.heap.size = A at hD hF ⊢
  have hA : ∀ q : Nat, s.heap.size ≤ q → A q := fun q h => by rw [← hAe]; exact Or.inr h
  have hS : va_S A s.heap s.heap [] := va_S.rf
  have hP : va_P D vwCl [(x, .inr (7, [.ref c1, .ref ps1, .ref lg, .int 9, .int 99, .int 0, .int 0, .int 0, .int ((-1)), .int 0, .int 0, .long 0])), (c1, .inr (3, [.int 0, .ref em, .int 0]))] s.heap := hP
  have hl := lv_entry ([.ref x, .int p0, .int p1, .int p2]) (n := 5) (Nat.le_of_ble_eq_true rfl)
  rw [lg_entry_eq]
  generalize (lg_sl ([.ref x, .int p0, .int p1, .int p2]) ++ List.replicate (5 - (lg_sl ([.ref x, .int p0, .int p1, .int p2])).length) Slot.unset).toArray = ls at hl ⊢
  have hl : lv_has ls 5 [(0, .ref x), (1, .int p0), (2, .int p1), (3, .int p2)] := hl
  refine lv_aload_n hx hb dX3_priceFor_0 rfl (lv_at hl 0 rfl) ?_
  refine lv_iload_n hx hb dX3_priceFor_1 rfl (lv_at hl 1 rfl) ?_
  have hPc := hP.sub (ws' := [(x, .inr (7, [.ref c1, .ref ps1, .ref lg, .int 9, .int 99, .int 0, .int 0, .int 0, .int ((-1)), .int 0, .int 0, .long 0])), (c1, .inr (3, [.int 0, .ref em, .int 0]))]) [0, 1] rfl
  have hDc := hD.sub (ws' := [(x, .inr (7, [.ref c1, .ref ps1, .ref lg, .int 9, .int 99, .int 0, .int 0, .int 0, .int ((-1)), .int 0, .int 0, .long 0])), (c1, .inr (3, [.int 0, .ref em, .int 0]))]) [0, 1] (by decide) rfl
  have hKc := hK.sub (tys' := []) [] rfl
  have hFc := va_free (wc := [(x, .inr (7, [.ref c1, .ref ps1, .ref lg, .int 9, .int 99, .int 0, .int 0, .int 0, .int ((-1)), .int 0, .int 0, .long 0])), (c1, .inr (3, [.int 0, .ref em, .int 0]))]) hD hS hA [0, 1] rfl
  refine vx_callq (vx_runV (As := [.int p0]) (rest := []) ⟨hx, hb, hml, hown, hts⟩ (c_X3_carOf l hst em kw kb D x p0 c1 ps1 lg _) (cwV 1 hts gX3_priceFor_X3_carOf rfl rfl rfl (by decide +kernel) ⟨(Nat.le_of_ble_eq_true rfl), (Nat.le_of_ble_eq_true rfl)⟩) (tw_preV hF hS hFc hPc hKc hDc (va_recv hKc hPc (ci := 7) (q0 := 0) rfl rfl)) rfl rfl hl.1 rfl (lv_room (Nat.le_of_ble_eq_true rfl)) dX3_priceFor_2 ⟨(Nat.le_of_ble_eq_true rfl), (Nat.le_of_ble_eq_true rfl)⟩) hS (fun q _ h => hFc q h) hFc (fun q _ h => hFc q h) (fun E ce q9 u t H locs ht hvm hw hB hz1 hk1 hS hce hcv hcl => ?_) (fun r u t H locs ht hvm hw hB hz1 hk1 hS => ?_)
  · obtain ⟨hE, hB⟩ := hB
    subst hw
    subst hE
    obtain ⟨hP, hD, hK⟩ := tw_join (wr := []) hP hD hK [0, 1] [] rfl rfl (by decide) (by decide) hk1 hFc ht hvm hB
    have hP : va_P D vwCl [(x, .inr (7, [.ref c1, .ref ps1, .ref lg, .int 9, .int 99, .int 0, .int 0, .int 0, .int ((-1)), .int 0, .int 0, .long 0])), (c1, .inr (3, [.int 0, .ref em, .int 0]))] _ := hP
    have hD : va_D A [(x, .inr (7, [.ref c1, .ref ps1, .ref lg, .int 9, .int 99, .int 0, .int 0, .int 0, .int ((-1)), .int 0, .int 0, .long 0])), (c1, .inr (3, [.int 0, .ref em, .int 0]))] := hD
    have hK : va_K D vwCl [] s := hK
    refine vx_widen (k := 1) (n := 6) (Nat.le_of_ble_eq_true rfl) (Nat.le_of_ble_eq_true rfl) ?_
    have hP9 := hP.sub (ws' := []) [] rfl
    have hD9 := hD.sub (ws' := []) [] (by decide) rfl
    have hK9 := hK.sub (tys' := []) [] rfl
    exact vx_out (fun x9 h9 => (htab x9 h9).elim) hlocks hce hcv hcl (tw_exc2 hP9 hK9 hD9 hS _ rfl) hS.2.2 (Nat.le_refl _) (Nat.le_refl _)
  · exact hw.elim
set_option maxHeartbeats 4000000 in
set_option maxRecDepth 100000 in
theorem c_X3_fail (l : Launch) (hst : l.stackTraces = false) (em kw kb : Nat) (D : va_G) (x : Nat) (p0 : Int32) (p1 : Int32) (c1 : Nat) (ps1 : Nat) (lg : Nat) (sz : Nat) : vx_Met l yX3_fail wsX3_fail ({ frames := 7, cells := 1, slots := 6, locals := 103 }) (va_Pc [.ref x, .int p0, .int p1] (tw_Pre em kw kb D sz [(x, .inr (7, [.ref c1, .ref ps1, .ref lg, .int 9, .int 99, .int 0, .int 0, .int 0, .int ((-1)), .int 0, .int 0, .long 0])), (c1, .inr (3, [.int 0, .ref em, .int 0]))] [])) (va_Qi (fun (r : Int32) (u : tw_U) => False) (tw_B D (va_A [(x, .inr (7, [.ref c1, .ref ps1, .ref lg, .int 9, .int 99, .int 0, .int 0, .int 0, .int ((-1)), .int 0, .int 0, .long 0])), (c1, .inr (3, [.int 0, .ref em, .int 0]))] sz)) (va_A [(x, .inr (7, [.ref c1, .ref ps1, .ref lg, .int 9, .int 99, .int 0, .int 0, .int 0, .int ((-1)), .int 0, .int 0, .long 0])), (c1, .inr (3, [.int 0, .ref em, .int 0]))] sz)) (vx_X (fun (u : String × tw_U) => u = ("java/lang/IndexOutOfBoundsException", (([], []) : tw_U))) (tw_BX D (va_A [(x, .inr (7, [.ref c1, .ref ps1, .ref lg, .int 9, .int 99, .int 0, .int 0, .int 0, .int ((-1)), .int 0, .int 0, .long 0])), (c1, .inr (3, [.int 0, .ref em, .int 0]))] sz)) (va_A [(x, .inr (7, [.ref c1, .ref ps1, .ref lg, .int 9, .int 99, .int 0, .int 0, .int 0, .int ((-1)), .int 0, .int 0, .long 0])), (c1, .inr (3, [.int 0, .ref em, .int 0]))] sz)) 1 6 (va_A [(x, .inr (7, [.ref c1, .ref ps1, .ref lg, .int 9, .int 99, .int 0, .int 0, .int 0, .int ((-1)), .int 0, .int 0, .long 0])), (c1, .inr (3, [.int 0, .ref em, .int 0]))] sz) := by
  refine vx_ofW (cc := cX3_fail) (maxL := 5) (ret := (some .boolean)) (by decide) rfl ?_
  intro p e s m args below meth c s₁ B hml htab hv
  obtain ⟨rfl, hsz, hP, hK, hD0, hF⟩ := hv
  have hx := B.exec
  have hb := B.bytes
  have hr := B.returns
  have hts := atoms_spec (ws := wsX3_fail) B.pre
  have hown : s.vm.findClass RX3 = some m.cls := findClass_of_methodNamed B.named
  have hlocks := B.notSynchronized
  subst hsz
  have hD := hD0.self (sz := s.heap.size)
  generalize hAe : va_A [(x, .inr (7, [.ref c1, .ref ps1, .ref lg, .int 9, .int 99, .int 0, .int 0, .int 0, .int ((-1)), .int 0, .int 0, .long 0])), (c1, .inr (3, [.int 0, .ref em, .int 0]))] s.heap.size = A at hD hF ⊢
  have hA : ∀ q : Nat, s.heap.size ≤ q → A q := fun q h => by rw [← hAe]; exact Or.inr h
  have hS : va_S A s.heap s.heap [] := va_S.rf
  have hP : va_P D vwCl [(x, .inr (7, [.ref c1, .ref ps1, .ref lg, .int 9, .int 99, .int 0, .int 0, .int 0, .int ((-1)), .int 0, .int 0, .long 0])), (c1, .inr (3, [.int 0, .ref em, .int 0]))] s.heap := hP
  have hl := lv_entry ([.ref x, .int p0, .int p1]) (n := 5) (Nat.le_of_ble_eq_true rfl)
  rw [lg_entry_eq]
  generalize (lg_sl ([.ref x, .int p0, .int p1]) ++ List.replicate (5 - (lg_sl ([.ref x, .int p0, .int p1])).length) Slot.unset).toArray = ls at hl ⊢
  have hl : lv_has ls 5 [(0, .ref x), (1, .int p0), (2, .int p1)] := hl
  refine lv_aload_n hx hb dX3_fail_0 rfl (lv_at hl 0 rfl) ?_
  refine lv_iload_n hx hb dX3_fail_1 rfl (lv_at hl 1 rfl) ?_
  have hPc := hP.sub (ws' := [(x, .inr (7, [.ref c1, .ref ps1, .ref lg, .int 9, .int 99, .int 0, .int 0, .int 0, .int ((-1)), .int 0, .int 0, .long 0])), (c1, .inr (3, [.int 0, .ref em, .int 0]))]) [0, 1] rfl
  have hDc := hD.sub (ws' := [(x, .inr (7, [.ref c1, .ref ps1, .ref lg, .int 9, .int 99, .int 0, .int 0, .int 0, .int ((-1)), .int 0, .int 0, .long 0])), (c1, .inr (3, [.int 0, .ref em, .int 0]))]) [0, 1] (by decide) rfl
  have hKc := hK.sub (tys' := []) [] rfl
  have hFc := va_free (wc := [(x, .inr (7, [.ref c1, .ref ps1, .ref lg, .int 9, .int 99, .int 0, .int 0, .int 0, .int ((-1)), .int 0, .int 0, .long 0])), (c1, .inr (3, [.int 0, .ref em, .int 0]))]) hD hS hA [0, 1] rfl
  refine vx_callq (vx_runV (As := [.int p0]) (rest := []) ⟨hx, hb, hml, hown, hts⟩ (c_X3_carOf l hst em kw kb D x p0 c1 ps1 lg _) (cwV 1 hts gX3_fail_X3_carOf rfl rfl rfl (by decide +kernel) ⟨(Nat.le_of_ble_eq_true rfl), (Nat.le_of_ble_eq_true rfl)⟩) (tw_preV hF hS hFc hPc hKc hDc (va_recv hKc hPc (ci := 7) (q0 := 0) rfl rfl)) rfl rfl hl.1 rfl (lv_room (Nat.le_of_ble_eq_true rfl)) dX3_fail_2 ⟨(Nat.le_of_ble_eq_true rfl), (Nat.le_of_ble_eq_true rfl)⟩) hS (fun q _ h => hFc q h) hFc (fun q _ h => hFc q h) (fun E ce q9 u t H locs ht hvm hw hB hz1 hk1 hS hce hcv hcl => ?_) (fun r u t H locs ht hvm hw hB hz1 hk1 hS => ?_)
  · obtain ⟨hE, hB⟩ := hB
    subst hw
    subst hE
    obtain ⟨hP, hD, hK⟩ := tw_join (wr := []) hP hD hK [0, 1] [] rfl rfl (by decide) (by decide) hk1 hFc ht hvm hB
    have hP : va_P D vwCl [(x, .inr (7, [.ref c1, .ref ps1, .ref lg, .int 9, .int 99, .int 0, .int 0, .int 0, .int ((-1)), .int 0, .int 0, .long 0])), (c1, .inr (3, [.int 0, .ref em, .int 0]))] _ := hP
    have hD : va_D A [(x, .inr (7, [.ref c1, .ref ps1, .ref lg, .int 9, .int 99, .int 0, .int 0, .int 0, .int ((-1)), .int 0, .int 0, .long 0])), (c1, .inr (3, [.int 0, .ref em, .int 0]))] := hD
    have hK : va_K D vwCl [] s := hK
    refine vx_widen (k := 1) (n := 6) (Nat.le_of_ble_eq_true rfl) (Nat.le_of_ble_eq_true rfl) ?_
    have hP9 := hP.sub (ws' := []) [] rfl
    have hD9 := hD.sub (ws' := []) [] (by decide) rfl
    have hK9 := hK.sub (tys' := []) [] rfl
    exact vx_out (fun x9 h9 => (htab x9 h9).elim) hlocks hce hcv hcl (tw_exc2 hP9 hK9 hD9 hS _ rfl) hS.2.2 (Nat.le_refl _) (Nat.le_refl _)
  · exact hw.elim
set_option maxHeartbeats 4000000 in
set_option maxRecDepth 100000 in
theorem c_X3_state (l : Launch) (hst : l.stackTraces = false) (em kw kb : Nat) (D : va_G) (x : Nat) (p0 : Int32) (c1 : Nat) (ps1 : Nat) (lg : Nat) (sz : Nat) : vx_Met l yX3_state wsX3_state ({ frames := 7, cells := 1, slots := 6, locals := 103 }) (va_Pc [.ref x, .int p0] (tw_Pre em kw kb D sz [(x, .inr (7, [.ref c1, .ref ps1, .ref lg, .int 9, .int 99, .int 0, .int 0, .int 0, .int ((-1)), .int 0, .int 0, .long 0])), (ps1, .inr (3, [.int 0, .ref em, .int 0]))] [])) (va_Qi (fun (r : Int32) (u : tw_U) => False) (tw_B D (va_A [(x, .inr (7, [.ref c1, .ref ps1, .ref lg, .int 9, .int 99, .int 0, .int 0, .int 0, .int ((-1)), .int 0, .int 0, .long 0])), (ps1, .inr (3, [.int 0, .ref em, .int 0]))] sz)) (va_A [(x, .inr (7, [.ref c1, .ref ps1, .ref lg, .int 9, .int 99, .int 0, .int 0, .int 0, .int ((-1)), .int 0, .int 0, .long 0])), (ps1, .inr (3, [.int 0, .ref em, .int 0]))] sz)) (vx_X (fun (u : String × tw_U) => u = ("java/lang/IndexOutOfBoundsException", (([], []) : tw_U))) (tw_BX D (va_A [(x, .inr (7, [.ref c1, .ref ps1, .ref lg, .int 9, .int 99, .int 0, .int 0, .int 0, .int ((-1)), .int 0, .int 0, .long 0])), (ps1, .inr (3, [.int 0, .ref em, .int 0]))] sz)) (va_A [(x, .inr (7, [.ref c1, .ref ps1, .ref lg, .int 9, .int 99, .int 0, .int 0, .int 0, .int ((-1)), .int 0, .int 0, .long 0])), (ps1, .inr (3, [.int 0, .ref em, .int 0]))] sz)) 1 6 (va_A [(x, .inr (7, [.ref c1, .ref ps1, .ref lg, .int 9, .int 99, .int 0, .int 0, .int 0, .int ((-1)), .int 0, .int 0, .long 0])), (ps1, .inr (3, [.int 0, .ref em, .int 0]))] sz) := by
  refine vx_ofW (cc := cX3_state) (maxL := 2) (ret := (some .char)) (by decide) rfl ?_
  intro p e s m args below meth c s₁ B hml htab hv
  obtain ⟨rfl, hsz, hP, hK, hD0, hF⟩ := hv
  have hx := B.exec
  have hb := B.bytes
  have hr := B.returns
  have hts := atoms_spec (ws := wsX3_state) B.pre
  have hown : s.vm.findClass RX3 = some m.cls := findClass_of_methodNamed B.named
  have hlocks := B.notSynchronized
  subst hsz
  have hD := hD0.self (sz := s.heap.size)
  generalize hAe : va_A [(x, .inr (7, [.ref c1, .ref ps1, .ref lg, .int 9, .int 99, .int 0, .int 0, .int 0, .int ((-1)), .int 0, .int 0, .long 0])), (ps1, .inr (3, [.int 0, .ref em, .int 0]))] s.heap.size = A at hD hF ⊢
  have hA : ∀ q : Nat, s.heap.size ≤ q → A q := fun q h => by rw [← hAe]; exact Or.inr h
  have hS : va_S A s.heap s.heap [] := va_S.rf
  have hP : va_P D vwCl [(x, .inr (7, [.ref c1, .ref ps1, .ref lg, .int 9, .int 99, .int 0, .int 0, .int 0, .int ((-1)), .int 0, .int 0, .long 0])), (ps1, .inr (3, [.int 0, .ref em, .int 0]))] s.heap := hP
  have hl := lv_entry ([.ref x, .int p0]) (n := 2) (Nat.le_of_ble_eq_true rfl)
  rw [lg_entry_eq]
  generalize (lg_sl ([.ref x, .int p0]) ++ List.replicate (2 - (lg_sl ([.ref x, .int p0])).length) Slot.unset).toArray = ls at hl ⊢
  have hl : lv_has ls 2 [(0, .ref x), (1, .int p0)] := hl
  refine lv_aload_n hx hb dX3_state_0 rfl (lv_at hl 0 rfl) ?_
  refine lv_iload_n hx hb dX3_state_1 rfl (lv_at hl 1 rfl) ?_
  have hPc := hP.sub (ws' := [(x, .inr (7, [.ref c1, .ref ps1, .ref lg, .int 9, .int 99, .int 0, .int 0, .int 0, .int ((-1)), .int 0, .int 0, .long 0])), (ps1, .inr (3, [.int 0, .ref em, .int 0]))]) [0, 1] rfl
  have hDc := hD.sub (ws' := [(x, .inr (7, [.ref c1, .ref ps1, .ref lg, .int 9, .int 99, .int 0, .int 0, .int 0, .int ((-1)), .int 0, .int 0, .long 0])), (ps1, .inr (3, [.int 0, .ref em, .int 0]))]) [0, 1] (by decide) rfl
  have hKc := hK.sub (tys' := []) [] rfl
  have hFc := va_free (wc := [(x, .inr (7, [.ref c1, .ref ps1, .ref lg, .int 9, .int 99, .int 0, .int 0, .int 0, .int ((-1)), .int 0, .int 0, .long 0])), (ps1, .inr (3, [.int 0, .ref em, .int 0]))]) hD hS hA [0, 1] rfl
  refine vx_callq (vx_runV (As := [.int p0]) (rest := []) ⟨hx, hb, hml, hown, hts⟩ (c_X3_personOf l hst em kw kb D x p0 c1 ps1 lg _) (cwV 1 hts gX3_state_X3_personOf rfl rfl rfl (by decide +kernel) ⟨(Nat.le_of_ble_eq_true rfl), (Nat.le_of_ble_eq_true rfl)⟩) (tw_preV hF hS hFc hPc hKc hDc (va_recv hKc hPc (ci := 7) (q0 := 0) rfl rfl)) rfl rfl hl.1 rfl (lv_room (Nat.le_of_ble_eq_true rfl)) dX3_state_2 ⟨(Nat.le_of_ble_eq_true rfl), (Nat.le_of_ble_eq_true rfl)⟩) hS (fun q _ h => hFc q h) hFc (fun q _ h => hFc q h) (fun E ce q9 u t H locs ht hvm hw hB hz1 hk1 hS hce hcv hcl => ?_) (fun r u t H locs ht hvm hw hB hz1 hk1 hS => ?_)
  · obtain ⟨hE, hB⟩ := hB
    subst hw
    subst hE
    obtain ⟨hP, hD, hK⟩ := tw_join (wr := []) hP hD hK [0, 1] [] rfl rfl (by decide) (by decide) hk1 hFc ht hvm hB
    have hP : va_P D vwCl [(x, .inr (7, [.ref c1, .ref ps1, .ref lg, .int 9, .int 99, .int 0, .int 0, .int 0, .int ((-1)), .int 0, .int 0, .long 0])), (ps1, .inr (3, [.int 0, .ref em, .int 0]))] _ := hP
    have hD : va_D A [(x, .inr (7, [.ref c1, .ref ps1, .ref lg, .int 9, .int 99, .int 0, .int 0, .int 0, .int ((-1)), .int 0, .int 0, .long 0])), (ps1, .inr (3, [.int 0, .ref em, .int 0]))] := hD
    have hK : va_K D vwCl [] s := hK
    refine vx_widen (k := 1) (n := 6) (Nat.le_of_ble_eq_true rfl) (Nat.le_of_ble_eq_true rfl) ?_
    have hP9 := hP.sub (ws' := []) [] rfl
    have hD9 := hD.sub (ws' := []) [] (by decide) rfl
    have hK9 := hK.sub (tys' := []) [] rfl
    exact vx_out (fun x9 h9 => (htab x9 h9).elim) hlocks hce hcv hcl (tw_exc2 hP9 hK9 hD9 hS _ rfl) hS.2.2 (Nat.le_refl _) (Nat.le_refl _)
  · exact hw.elim
set_option maxHeartbeats 4000000 in
set_option maxRecDepth 100000 in
theorem c_X3_placeOf (l : Launch) (hst : l.stackTraces = false) (em kw kb : Nat) (D : va_G) (x : Nat) (p0 : Int32) (c1 : Nat) (ps1 : Nat) (lg : Nat) (sz : Nat) : vx_Met l yX3_placeOf wsX3_placeOf ({ frames := 7, cells := 1, slots := 6, locals := 103 }) (va_Pc [.ref x, .int p0] (tw_Pre em kw kb D sz [(x, .inr (7, [.ref c1, .ref ps1, .ref lg, .int 9, .int 99, .int 0, .int 0, .int 0, .int ((-1)), .int 0, .int 0, .long 0])), (ps1, .inr (3, [.int 0, .ref em, .int 0]))] [])) (va_Qi (fun (r : Int32) (u : tw_U) => False) (tw_B D (va_A [(x, .inr (7, [.ref c1, .ref ps1, .ref lg, .int 9, .int 99, .int 0, .int 0, .int 0, .int ((-1)), .int 0, .int 0, .long 0])), (ps1, .inr (3, [.int 0, .ref em, .int 0]))] sz)) (va_A [(x, .inr (7, [.ref c1, .ref ps1, .ref lg, .int 9, .int 99, .int 0, .int 0, .int 0, .int ((-1)), .int 0, .int 0, .long 0])), (ps1, .inr (3, [.int 0, .ref em, .int 0]))] sz)) (vx_X (fun (u : String × tw_U) => u = ("java/lang/IndexOutOfBoundsException", (([], []) : tw_U))) (tw_BX D (va_A [(x, .inr (7, [.ref c1, .ref ps1, .ref lg, .int 9, .int 99, .int 0, .int 0, .int 0, .int ((-1)), .int 0, .int 0, .long 0])), (ps1, .inr (3, [.int 0, .ref em, .int 0]))] sz)) (va_A [(x, .inr (7, [.ref c1, .ref ps1, .ref lg, .int 9, .int 99, .int 0, .int 0, .int 0, .int ((-1)), .int 0, .int 0, .long 0])), (ps1, .inr (3, [.int 0, .ref em, .int 0]))] sz)) 1 6 (va_A [(x, .inr (7, [.ref c1, .ref ps1, .ref lg, .int 9, .int 99, .int 0, .int 0, .int 0, .int ((-1)), .int 0, .int 0, .long 0])), (ps1, .inr (3, [.int 0, .ref em, .int 0]))] sz) := by
  refine vx_ofW (cc := cX3_placeOf) (maxL := 3) (ret := (some .int)) (by decide) rfl ?_
  intro p e s m args below meth c s₁ B hml htab hv
  obtain ⟨rfl, hsz, hP, hK, hD0, hF⟩ := hv
  have hx := B.exec
  have hb := B.bytes
  have hr := B.returns
  have hts := atoms_spec (ws := wsX3_placeOf) B.pre
  have hown : s.vm.findClass RX3 = some m.cls := findClass_of_methodNamed B.named
  have hlocks := B.notSynchronized
  subst hsz
  have hD := hD0.self (sz := s.heap.size)
  generalize hAe : va_A [(x, .inr (7, [.ref c1, .ref ps1, .ref lg, .int 9, .int 99, .int 0, .int 0, .int 0, .int ((-1)), .int 0, .int 0, .long 0])), (ps1, .inr (3, [.int 0, .ref em, .int 0]))] s.heap.size = A at hD hF ⊢
  have hA : ∀ q : Nat, s.heap.size ≤ q → A q := fun q h => by rw [← hAe]; exact Or.inr h
  have hS : va_S A s.heap s.heap [] := va_S.rf
  have hP : va_P D vwCl [(x, .inr (7, [.ref c1, .ref ps1, .ref lg, .int 9, .int 99, .int 0, .int 0, .int 0, .int ((-1)), .int 0, .int 0, .long 0])), (ps1, .inr (3, [.int 0, .ref em, .int 0]))] s.heap := hP
  have hl := lv_entry ([.ref x, .int p0]) (n := 3) (Nat.le_of_ble_eq_true rfl)
  rw [lg_entry_eq]
  generalize (lg_sl ([.ref x, .int p0]) ++ List.replicate (3 - (lg_sl ([.ref x, .int p0])).length) Slot.unset).toArray = ls at hl ⊢
  have hl : lv_has ls 3 [(0, .ref x), (1, .int p0)] := hl
  refine lv_aload_n hx hb dX3_placeOf_0 rfl (lv_at hl 0 rfl) ?_
  refine lv_iload_n hx hb dX3_placeOf_1 rfl (lv_at hl 1 rfl) ?_
  have hPc := hP.sub (ws' := [(x, .inr (7, [.ref c1, .ref ps1, .ref lg, .int 9, .int 99, .int 0, .int 0, .int 0, .int ((-1)), .int 0, .int 0, .long 0])), (ps1, .inr (3, [.int 0, .ref em, .int 0]))]) [0, 1] rfl
  have hDc := hD.sub (ws' := [(x, .inr (7, [.ref c1, .ref ps1, .ref lg, .int 9, .int 99, .int 0, .int 0, .int 0, .int ((-1)), .int 0, .int 0, .long 0])), (ps1, .inr (3, [.int 0, .ref em, .int 0]))]) [0, 1] (by decide) rfl
  have hKc := hK.sub (tys' := []) [] rfl
  have hFc := va_free (wc := [(x, .inr (7, [.ref c1, .ref ps1, .ref lg, .int 9, .int 99, .int 0, .int 0, .int 0, .int ((-1)), .int 0, .int 0, .long 0])), (ps1, .inr (3, [.int 0, .ref em, .int 0]))]) hD hS hA [0, 1] rfl
  refine vx_callq (vx_runV (As := [.int p0]) (rest := []) ⟨hx, hb, hml, hown, hts⟩ (c_X3_personOf l hst em kw kb D x p0 c1 ps1 lg _) (cwV 1 hts gX3_placeOf_X3_personOf rfl rfl rfl (by decide +kernel) ⟨(Nat.le_of_ble_eq_true rfl), (Nat.le_of_ble_eq_true rfl)⟩) (tw_preV hF hS hFc hPc hKc hDc (va_recv hKc hPc (ci := 7) (q0 := 0) rfl rfl)) rfl rfl hl.1 rfl (lv_room (Nat.le_of_ble_eq_true rfl)) dX3_placeOf_2 ⟨(Nat.le_of_ble_eq_true rfl), (Nat.le_of_ble_eq_true rfl)⟩) hS (fun q _ h => hFc q h) hFc (fun q _ h => hFc q h) (fun E ce q9 u t H locs ht hvm hw hB hz1 hk1 hS hce hcv hcl => ?_) (fun r u t H locs ht hvm hw hB hz1 hk1 hS => ?_)
  · obtain ⟨hE, hB⟩ := hB
    subst hw
    subst hE
    obtain ⟨hP, hD, hK⟩ := tw_join (wr := []) hP hD hK [0, 1] [] rfl rfl (by decide) (by decide) hk1 hFc ht hvm hB
    have hP : va_P D vwCl [(x, .inr (7, [.ref c1, .ref ps1, .ref lg, .int 9, .int 99, .int 0, .int 0, .int 0, .int ((-1)), .int 0, .int 0, .long 0])), (ps1, .inr (3, [.int 0, .ref em, .int 0]))] _ := hP
    have hD : va_D A [(x, .inr (7, [.ref c1, .ref ps1, .ref lg, .int 9, .int 99, .int 0, .int 0, .int 0, .int ((-1)), .int 0, .int 0, .long 0])), (ps1, .inr (3, [.int 0, .ref em, .int 0]))] := hD
    have hK : va_K D vwCl [] s := hK
    refine vx_widen (k := 1) (n := 6) (Nat.le_of_ble_eq_true rfl) (Nat.le_of_ble_eq_true rfl) ?_
    have hP9 := hP.sub (ws' := []) [] rfl
    have hD9 := hD.sub (ws' := []) [] (by decide) rfl
    have hK9 := hK.sub (tys' := []) [] rfl
    exact vx_out (fun x9 h9 => (htab x9 h9).elim) hlocks hce hcv hcl (tw_exc2 hP9 hK9 hD9 hS _ rfl) hS.2.2 (Nat.le_refl _) (Nat.le_refl _)
  · exact hw.elim
set_option maxHeartbeats 4000000 in
set_option maxRecDepth 100000 in
theorem c_X3_waited (l : Launch) (hst : l.stackTraces = false) (em kw kb : Nat) (D : va_G) (x : Nat) (p0 : Int32) (c1 : Nat) (ps1 : Nat) (lg : Nat) (sz : Nat) : vx_Met l yX3_waited wsX3_waited ({ frames := 7, cells := 1, slots := 6, locals := 103 }) (va_Pc [.ref x, .int p0] (tw_Pre em kw kb D sz [(x, .inr (7, [.ref c1, .ref ps1, .ref lg, .int 9, .int 99, .int 0, .int 0, .int 0, .int ((-1)), .int 0, .int 0, .long 0])), (ps1, .inr (3, [.int 0, .ref em, .int 0]))] [])) (va_Qi (fun (r : Int32) (u : tw_U) => False) (tw_B D (va_A [(x, .inr (7, [.ref c1, .ref ps1, .ref lg, .int 9, .int 99, .int 0, .int 0, .int 0, .int ((-1)), .int 0, .int 0, .long 0])), (ps1, .inr (3, [.int 0, .ref em, .int 0]))] sz)) (va_A [(x, .inr (7, [.ref c1, .ref ps1, .ref lg, .int 9, .int 99, .int 0, .int 0, .int 0, .int ((-1)), .int 0, .int 0, .long 0])), (ps1, .inr (3, [.int 0, .ref em, .int 0]))] sz)) (vx_X (fun (u : String × tw_U) => u = ("java/lang/IndexOutOfBoundsException", (([], []) : tw_U))) (tw_BX D (va_A [(x, .inr (7, [.ref c1, .ref ps1, .ref lg, .int 9, .int 99, .int 0, .int 0, .int 0, .int ((-1)), .int 0, .int 0, .long 0])), (ps1, .inr (3, [.int 0, .ref em, .int 0]))] sz)) (va_A [(x, .inr (7, [.ref c1, .ref ps1, .ref lg, .int 9, .int 99, .int 0, .int 0, .int 0, .int ((-1)), .int 0, .int 0, .long 0])), (ps1, .inr (3, [.int 0, .ref em, .int 0]))] sz)) 1 6 (va_A [(x, .inr (7, [.ref c1, .ref ps1, .ref lg, .int 9, .int 99, .int 0, .int 0, .int 0, .int ((-1)), .int 0, .int 0, .long 0])), (ps1, .inr (3, [.int 0, .ref em, .int 0]))] sz) := by
  refine vx_ofW (cc := cX3_waited) (maxL := 2) (ret := (some .int)) (by decide) rfl ?_
  intro p e s m args below meth c s₁ B hml htab hv
  obtain ⟨rfl, hsz, hP, hK, hD0, hF⟩ := hv
  have hx := B.exec
  have hb := B.bytes
  have hr := B.returns
  have hts := atoms_spec (ws := wsX3_waited) B.pre
  have hown : s.vm.findClass RX3 = some m.cls := findClass_of_methodNamed B.named
  have hlocks := B.notSynchronized
  subst hsz
  have hD := hD0.self (sz := s.heap.size)
  generalize hAe : va_A [(x, .inr (7, [.ref c1, .ref ps1, .ref lg, .int 9, .int 99, .int 0, .int 0, .int 0, .int ((-1)), .int 0, .int 0, .long 0])), (ps1, .inr (3, [.int 0, .ref em, .int 0]))] s.heap.size = A at hD hF ⊢
  have hA : ∀ q : Nat, s.heap.size ≤ q → A q := fun q h => by rw [← hAe]; exact Or.inr h
  have hS : va_S A s.heap s.heap [] := va_S.rf
  have hP : va_P D vwCl [(x, .inr (7, [.ref c1, .ref ps1, .ref lg, .int 9, .int 99, .int 0, .int 0, .int 0, .int ((-1)), .int 0, .int 0, .long 0])), (ps1, .inr (3, [.int 0, .ref em, .int 0]))] s.heap := hP
  have hl := lv_entry ([.ref x, .int p0]) (n := 2) (Nat.le_of_ble_eq_true rfl)
  rw [lg_entry_eq]
  generalize (lg_sl ([.ref x, .int p0]) ++ List.replicate (2 - (lg_sl ([.ref x, .int p0])).length) Slot.unset).toArray = ls at hl ⊢
  have hl : lv_has ls 2 [(0, .ref x), (1, .int p0)] := hl
  refine lv_aload_n hx hb dX3_waited_0 rfl (lv_at hl 0 rfl) ?_
  refine lv_iload_n hx hb dX3_waited_1 rfl (lv_at hl 1 rfl) ?_
  have hPc := hP.sub (ws' := [(x, .inr (7, [.ref c1, .ref ps1, .ref lg, .int 9, .int 99, .int 0, .int 0, .int 0, .int ((-1)), .int 0, .int 0, .long 0])), (ps1, .inr (3, [.int 0, .ref em, .int 0]))]) [0, 1] rfl
  have hDc := hD.sub (ws' := [(x, .inr (7, [.ref c1, .ref ps1, .ref lg, .int 9, .int 99, .int 0, .int 0, .int 0, .int ((-1)), .int 0, .int 0, .long 0])), (ps1, .inr (3, [.int 0, .ref em, .int 0]))]) [0, 1] (by decide) rfl
  have hKc := hK.sub (tys' := []) [] rfl
  have hFc := va_free (wc := [(x, .inr (7, [.ref c1, .ref ps1, .ref lg, .int 9, .int 99, .int 0, .int 0, .int 0, .int ((-1)), .int 0, .int 0, .long 0])), (ps1, .inr (3, [.int 0, .ref em, .int 0]))]) hD hS hA [0, 1] rfl
  refine vx_callq (vx_runV (As := [.int p0]) (rest := []) ⟨hx, hb, hml, hown, hts⟩ (c_X3_personOf l hst em kw kb D x p0 c1 ps1 lg _) (cwV 1 hts gX3_waited_X3_personOf rfl rfl rfl (by decide +kernel) ⟨(Nat.le_of_ble_eq_true rfl), (Nat.le_of_ble_eq_true rfl)⟩) (tw_preV hF hS hFc hPc hKc hDc (va_recv hKc hPc (ci := 7) (q0 := 0) rfl rfl)) rfl rfl hl.1 rfl (lv_room (Nat.le_of_ble_eq_true rfl)) dX3_waited_2 ⟨(Nat.le_of_ble_eq_true rfl), (Nat.le_of_ble_eq_true rfl)⟩) hS (fun q _ h => hFc q h) hFc (fun q _ h => hFc q h) (fun E ce q9 u t H locs ht hvm hw hB hz1 hk1 hS hce hcv hcl => ?_) (fun r u t H locs ht hvm hw hB hz1 hk1 hS => ?_)
  · obtain ⟨hE, hB⟩ := hB
    subst hw
    subst hE
    obtain ⟨hP, hD, hK⟩ := tw_join (wr := []) hP hD hK [0, 1] [] rfl rfl (by decide) (by decide) hk1 hFc ht hvm hB
    have hP : va_P D vwCl [(x, .inr (7, [.ref c1, .ref ps1, .ref lg, .int 9, .int 99, .int 0, .int 0, .int 0, .int ((-1)), .int 0, .int 0, .long 0])), (ps1, .inr (3, [.int 0, .ref em, .int 0]))] _ := hP
    have hD : va_D A [(x, .inr (7, [.ref c1, .ref ps1, .ref lg, .int 9, .int 99, .int 0, .int 0, .int 0, .int ((-1)), .int 0, .int 0, .long 0])), (ps1, .inr (3, [.int 0, .ref em, .int 0]))] := hD
    have hK : va_K D vwCl [] s := hK
    refine vx_widen (k := 1) (n := 6) (Nat.le_of_ble_eq_true rfl) (Nat.le_of_ble_eq_true rfl) ?_
    have hP9 := hP.sub (ws' := []) [] rfl
    have hD9 := hD.sub (ws' := []) [] (by decide) rfl
    have hK9 := hK.sub (tys' := []) [] rfl
    exact vx_out (fun x9 h9 => (htab x9 h9).elim) hlocks hce hcv hcl (tw_exc2 hP9 hK9 hD9 hS _ rfl) hS.2.2 (Nat.le_refl _) (Nat.le_refl _)
  · exact hw.elim
