theorem dX6_setTop_0 : decode cX6_setTop 0 = .ok (.iload_n 1, 1) := by decide +kernel
theorem dX6_setTop_1 : decode cX6_setTop 1 = .ok (.iconst 4, 1) := by decide +kernel
theorem dX6_setTop_2 : decode cX6_setTop 2 = .ok (.bipush 23, 2) := by decide +kernel
set_option maxRecDepth 20000 in
theorem ggX6_setTop_X6_in : GoodIn wsX6_setTop wsX6_in := goodIn_r _ [7] (by decide +kernel) (by decide +kernel)
set_option maxRecDepth 20000 in
theorem gX6_setTop_X6_in : GoodIn wsX6_setTop (va_wsS RX6 41 yX6_in wsX6_in) := goodIn_app (goodIn_of _ (by decide +kernel)) ggX6_setTop_X6_in
theorem dX6_setTop_4 : decode cX6_setTop 4 = .ok (.invokestatic 41, 3) := by decide +kernel
theorem dX6_setTop_7 : decode cX6_setTop 7 = .ok (.ifCond .ne 9, 3) := by decide +kernel
theorem dX6_setTop_10 : decode cX6_setTop 10 = .ok (.aload_n 0, 1) := by decide +kernel
theorem dX6_setTop_11 : decode cX6_setTop 11 = .ok (.iconst 1, 1) := by decide +kernel
set_option maxRecDepth 20000 in
theorem ggX6_setTop_X6_fails : GoodIn wsX6_setTop wsX6_fails := goodIn_r _ [11, 12, 23, 24, 25, 26, 27, 28, 29, 30, 31, 32, 33, 34] (by decide +kernel) (by decide +kernel)
set_option maxRecDepth 20000 in
theorem gX6_setTop_X6_fails : GoodIn wsX6_setTop (wsV RX6 45 RX6 yX6_fails wsX6_fails) := goodIn_app (goodIn_of _ (by decide +kernel)) ggX6_setTop_X6_fails
theorem dX6_setTop_12 : decode cX6_setTop 12 = .ok (.invokevirtual 45, 3) := by decide +kernel
theorem dX6_setTop_15 : decode cX6_setTop 15 = .ok (.ireturn, 1) := by decide +kernel
theorem dX6_setTop_16 : decode cX6_setTop 16 = .ok (.aload_n 0, 1) := by decide +kernel
theorem dX6_setTop_17 : decode cX6_setTop 17 = .ok (.getfield 20, 3) := by decide +kernel
set_option maxRecDepth 20000 in
theorem ggX6_setTop_Jx4a65c_isEmpty_aae02 : GoodIn wsX6_setTop wsJx4a65c_isEmpty_aae02 := goodIn_r _ [17, 18, 35, 36, 37] (by decide +kernel) (by decide +kernel)
set_option maxRecDepth 20000 in
theorem gX6_setTop_Jx4a65c_isEmpty_aae02 : GoodIn wsX6_setTop (wsV RX6 49 RJx4a65c yJx4a65c_isEmpty_aae02 wsJx4a65c_isEmpty_aae02) := goodIn_app (goodIn_of _ (by decide +kernel)) ggX6_setTop_Jx4a65c_isEmpty_aae02
theorem dX6_setTop_20 : decode cX6_setTop 20 = .ok (.invokevirtual 49, 3) := by decide +kernel
theorem dX6_setTop_23 : decode cX6_setTop 23 = .ok (.ifCond .eq 13, 3) := by decide +kernel
theorem dX6_setTop_26 : decode cX6_setTop 26 = .ok (.aload_n 0, 1) := by decide +kernel
theorem dX6_setTop_27 : decode cX6_setTop 27 = .ok (.getfield 24, 3) := by decide +kernel
theorem dX6_setTop_30 : decode cX6_setTop 30 = .ok (.invokevirtual 49, 3) := by decide +kernel
theorem dX6_setTop_33 : decode cX6_setTop 33 = .ok (.ifCond .ne 9, 3) := by decide +kernel
theorem dX6_setTop_42 : decode cX6_setTop 42 = .ok (.aload_n 0, 1) := by decide +kernel
theorem dX6_setTop_43 : decode cX6_setTop 43 = .ok (.getfield 7, 3) := by decide +kernel
theorem dX6_setTop_46 : decode cX6_setTop 46 = .ok (.istore_n 2, 1) := by decide +kernel
theorem dX6_setTop_47 : decode cX6_setTop 47 = .ok (.aload_n 0, 1) := by decide +kernel
theorem dX6_setTop_48 : decode cX6_setTop 48 = .ok (.iload_n 1, 1) := by decide +kernel
theorem dX6_setTop_49 : decode cX6_setTop 49 = .ok (.putfield 7, 3) := by decide +kernel
theorem dX6_setTop_52 : decode cX6_setTop 52 = .ok (.aload_n 0, 1) := by decide +kernel
theorem dX6_setTop_53 : decode cX6_setTop 53 = .ok (.iload_n 2, 1) := by decide +kernel
set_option maxRecDepth 20000 in
theorem ggX6_setTop_X6_tells : GoodIn wsX6_setTop wsX6_tells := goodIn_r _ [22, 12, 23, 24, 25, 26, 27, 28, 29, 30, 31, 32, 33, 34] (by decide +kernel) (by decide +kernel)
set_option maxRecDepth 20000 in
theorem gX6_setTop_X6_tells : GoodIn wsX6_setTop (wsV RX6 53 RX6 yX6_tells wsX6_tells) := goodIn_app (goodIn_of _ (by decide +kernel)) ggX6_setTop_X6_tells
theorem dX6_setTop_54 : decode cX6_setTop 54 = .ok (.invokevirtual 53, 3) := by decide +kernel
theorem dX6_setTop_57 : decode cX6_setTop 57 = .ok (.ireturn, 1) := by decide +kernel
theorem dX6_car_0 : decode cX6_car 0 = .ok (.iload_n 1, 1) := by decide +kernel
theorem dX6_car_1 : decode cX6_car 1 = .ok (.iconst 0, 1) := by decide +kernel
theorem dX6_car_2 : decode cX6_car 2 = .ok (.iconst 2, 1) := by decide +kernel
set_option maxRecDepth 20000 in
theorem ggX6_car_X6_in : GoodIn wsX6_car wsX6_in := goodIn_r _ [9] (by decide +kernel) (by decide +kernel)
set_option maxRecDepth 20000 in
theorem gX6_car_X6_in : GoodIn wsX6_car (va_wsS RX6 41 yX6_in wsX6_in) := goodIn_app (goodIn_of _ (by decide +kernel)) ggX6_car_X6_in
theorem dX6_car_3 : decode cX6_car 3 = .ok (.invokestatic 41, 3) := by decide +kernel
theorem dX6_car_6 : decode cX6_car 6 = .ok (.ifCond .eq 31, 3) := by decide +kernel
theorem dX6_car_37 : decode cX6_car 37 = .ok (.aload_n 0, 1) := by decide +kernel
theorem dX6_car_38 : decode cX6_car 38 = .ok (.iconst 1, 1) := by decide +kernel
set_option maxRecDepth 20000 in
theorem ggX6_car_X6_fails : GoodIn wsX6_car wsX6_fails := goodIn_r _ [18, 19, 137, 138, 139, 140, 141, 142, 143, 144, 145, 146, 147, 148] (by decide +kernel) (by decide +kernel)
set_option maxRecDepth 20000 in
theorem gX6_car_X6_fails : GoodIn wsX6_car (wsV RX6 45 RX6 yX6_fails wsX6_fails) := goodIn_app (goodIn_of _ (by decide +kernel)) ggX6_car_X6_fails
theorem dX6_car_39 : decode cX6_car 39 = .ok (.invokevirtual 45, 3) := by decide +kernel
theorem dX6_car_42 : decode cX6_car 42 = .ok (.ireturn, 1) := by decide +kernel
theorem dX6_car_9 : decode cX6_car 9 = .ok (.aload_n 0, 1) := by decide +kernel
theorem dX6_car_10 : decode cX6_car 10 = .ok (.iload_n 3, 1) := by decide +kernel
set_option maxRecDepth 20000 in
theorem ggX6_car_X6_isFloor : GoodIn wsX6_car wsX6_isFloor := goodIn_r _ [13, 14, 6, 7, 8, 9, 137, 138, 139, 140, 141, 142, 143, 144, 145, 146, 147, 148] (by decide +kernel) (by decide +kernel)
set_option maxRecDepth 20000 in
theorem gX6_car_X6_isFloor : GoodIn wsX6_car (wsV RX6 56 RX6 yX6_isFloor wsX6_isFloor) := goodIn_app (goodIn_of _ (by decide +kernel)) ggX6_car_X6_isFloor
theorem dX6_car_11 : decode cX6_car 11 = .ok (.invokevirtual 56, 3) := by decide +kernel
theorem dX6_car_14 : decode cX6_car 14 = .ok (.ifCond .eq 23, 3) := by decide +kernel
theorem dX6_car_17 : decode cX6_car 17 = .ok (.iload_n 2, 1) := by decide +kernel
theorem dX6_car_18 : decode cX6_car 18 = .ok (.sipush 200, 3) := by decide +kernel
theorem dX6_car_21 : decode cX6_car 21 = .ok (.sipush 2000, 3) := by decide +kernel
theorem dX6_car_24 : decode cX6_car 24 = .ok (.invokestatic 41, 3) := by decide +kernel
theorem dX6_car_27 : decode cX6_car 27 = .ok (.ifCond .eq 10, 3) := by decide +kernel
theorem dX6_car_30 : decode cX6_car 30 = .ok (.iload_n 2, 1) := by decide +kernel
theorem dX6_car_31 : decode cX6_car 31 = .ok (.iconst 2, 1) := by decide +kernel
theorem dX6_car_32 : decode cX6_car 32 = .ok (.irem, 1) := by decide +kernel
theorem dX6_car_33 : decode cX6_car 33 = .ok (.iconst 1, 1) := by decide +kernel
theorem dX6_car_34 : decode cX6_car 34 = .ok (.if_icmp .ne 9, 3) := by decide +kernel
theorem dX6_car_43 : decode cX6_car 43 = .ok (.aconst_null, 1) := by decide +kernel
theorem dX6_car_44 : decode cX6_car 44 = .ok (.astore 4, 2) := by decide +kernel
theorem dX6_car_46 : decode cX6_car 46 = .ok (.iconst 0, 1) := by decide +kernel
theorem dX6_car_47 : decode cX6_car 47 = .ok (.istore 5, 2) := by decide +kernel
theorem dX6_car_49 : decode cX6_car 49 = .ok (.aload_n 0, 1) := by decide +kernel
theorem dX6_car_50 : decode cX6_car 50 = .ok (.getfield 20, 3) := by decide +kernel
set_option maxRecDepth 20000 in
theorem ggX6_car_Jx4a65c_iterator_32c93 : GoodIn wsX6_car wsJx4a65c_iterator_32c93 := goodIn_r _ [24, 25, 26, 27, 28, 29, 30, 31, 32, 33, 34, 35, 36, 37, 38, 163, 164, 165, 166, 167, 168, 169] (by decide +kernel) (by decide +kernel)
set_option maxRecDepth 20000 in
theorem gX6_car_Jx4a65c_iterator_32c93 : GoodIn wsX6_car (wsV RX6 60 RJx4a65c yJx4a65c_iterator_32c93 wsJx4a65c_iterator_32c93) := goodIn_app (goodIn_of _ (by decide +kernel)) ggX6_car_Jx4a65c_iterator_32c93
theorem dX6_car_53 : decode cX6_car 53 = .ok (.invokevirtual 60, 3) := by decide +kernel
theorem dX6_car_56 : decode cX6_car 56 = .ok (.astore 6, 2) := by decide +kernel
theorem dX6_car_58 : decode cX6_car 58 = .ok (.aload 6, 2) := by decide +kernel
set_option maxRecDepth 20000 in
theorem ggX6_car_Jx35411_hasNext_aae02 : GoodIn wsX6_car wsJx35411_hasNext_aae02 := goodIn_r _ [42, 43, 31, 163, 164, 165, 166, 167, 168, 169] (by decide +kernel) (by decide +kernel)
set_option maxRecDepth 20000 in
theorem gX6_car_Jx35411_hasNext_aae02_f64Jx35411 : GoodIn wsX6_car (va_wsF RX6 64 RJx35411 ⟨"java/util/Iterator", "hasNext", "()Z"⟩ yJx35411_hasNext_aae02 wsJx35411_hasNext_aae02) := goodIn_app (goodIn_of _ (by decide +kernel)) ggX6_car_Jx35411_hasNext_aae02
theorem dX6_car_60 : decode cX6_car 60 = .ok (.invokeinterface 64 1, 5) := by decide +kernel
theorem dX6_car_65 : decode cX6_car 65 = .ok (.ifCond .eq 37, 3) := by decide +kernel
theorem dX6_car_102 : decode cX6_car 102 = .ok (.iload 5, 2) := by decide +kernel
theorem dX6_car_104 : decode cX6_car 104 = .ok (.iconst 2, 1) := by decide +kernel
theorem dX6_car_105 : decode cX6_car 105 = .ok (.if_icmp .eq 49, 3) := by decide +kernel
theorem dX6_car_108 : decode cX6_car 108 = .ok (.iload 5, 2) := by decide +kernel
theorem dX6_car_110 : decode cX6_car 110 = .ok (.iconst 1, 1) := by decide +kernel
theorem dX6_car_111 : decode cX6_car 111 = .ok (.if_icmp .ne 49, 3) := by decide +kernel
theorem dX6_car_160 : decode cX6_car 160 = .ok (.aload_n 0, 1) := by decide +kernel
theorem dX6_car_161 : decode cX6_car 161 = .ok (.getfield 20, 3) := by decide +kernel
set_option maxRecDepth 20000 in
theorem ggX6_car_Jx4a65c_size_8abf5 : GoodIn wsX6_car wsJx4a65c_size_8abf5 := goodIn_r _ [65, 66, 167, 168, 169] (by decide +kernel) (by decide +kernel)
set_option maxRecDepth 20000 in
theorem gX6_car_Jx4a65c_size_8abf5 : GoodIn wsX6_car (wsV RX6 94 RJx4a65c yJx4a65c_size_8abf5 wsJx4a65c_size_8abf5) := goodIn_app (goodIn_of _ (by decide +kernel)) ggX6_car_Jx4a65c_size_8abf5
theorem dX6_car_164 : decode cX6_car 164 = .ok (.invokevirtual 94, 3) := by decide +kernel
theorem dX6_car_167 : decode cX6_car 167 = .ok (.iconst 5, 1) := by decide +kernel
theorem dX6_car_168 : decode cX6_car 168 = .ok (.if_icmp .ne 9, 3) := by decide +kernel
theorem dX6_car_177 : decode cX6_car 177 = .ok (.aload_n 0, 1) := by decide +kernel
theorem dX6_car_178 : decode cX6_car 178 = .ok (.getfield 20, 3) := by decide +kernel
theorem dX6_car_181 : decode cX6_car 181 = .ok (.new 73, 3) := by decide +kernel
theorem dX6_car_184 : decode cX6_car 184 = .ok (.dup, 1) := by decide +kernel
theorem dX6_car_185 : decode cX6_car 185 = .ok (.aload_n 0, 1) := by decide +kernel
theorem dX6_car_186 : decode cX6_car 186 = .ok (.aload_n 0, 1) := by decide +kernel
theorem dX6_car_187 : decode cX6_car 187 = .ok (.getfield 20, 3) := by decide +kernel
theorem dX6_car_190 : decode cX6_car 190 = .ok (.invokevirtual 94, 3) := by decide +kernel
theorem dX6_car_193 : decode cX6_car 193 = .ok (.iload_n 1, 1) := by decide +kernel
theorem dX6_car_194 : decode cX6_car 194 = .ok (.iload_n 2, 1) := by decide +kernel
theorem dX6_car_195 : decode cX6_car 195 = .ok (.iload_n 3, 1) := by decide +kernel
theorem dX6_car_196 : decode cX6_car 196 = .ok (.aload 4, 2) := by decide +kernel
set_option maxRecDepth 20000 in
theorem ggX6_car_X4_init : GoodIn wsX6_car wsX4_init := goodIn_r _ [69, 57, 70, 33, 34, 71, 72, 73, 74, 75, 76, 77, 78, 79, 149, 150, 151, 152, 153, 154, 155, 156, 157, 158, 159, 160, 161, 162] (by decide +kernel) (by decide +kernel)
set_option maxRecDepth 20000 in
theorem gX6_car_X4_init : GoodIn wsX6_car (wsX4_init) := ggX6_car_X4_init
theorem dX6_car_198 : decode cX6_car 198 = .ok (.invokespecial 98, 3) := by decide +kernel
set_option maxRecDepth 20000 in
theorem ggX6_car_Jx4a65c_add_9ea2d : GoodIn wsX6_car wsJx4a65c_add_9ea2d := goodIn_r _ [83, 84, 37, 85, 66, 86, 87, 88, 23, 89, 90, 91, 92, 93, 94, 95, 96, 97, 98, 99, 100, 101, 102, 103, 104, 105, 106, 107, 108, 109, 110, 111, 112, 113, 114, 115, 116, 117, 118, 119, 120, 121, 122, 123, 124, 125, 126, 127, 128, 129, 130, 131, 132, 167, 168, 169] (by decide +kernel) (by decide +kernel)
set_option maxRecDepth 20000 in
theorem gX6_car_Jx4a65c_add_9ea2d : GoodIn wsX6_car (wsV RX6 101 RJx4a65c yJx4a65c_add_9ea2d wsJx4a65c_add_9ea2d) := goodIn_app (goodIn_of _ (by decide +kernel)) ggX6_car_Jx4a65c_add_9ea2d
theorem dX6_car_201 : decode cX6_car 201 = .ok (.invokevirtual 101, 3) := by decide +kernel
theorem dX6_car_204 : decode cX6_car 204 = .ok (.pop, 1) := by decide +kernel
theorem dX6_car_205 : decode cX6_car 205 = .ok (.aload_n 0, 1) := by decide +kernel
theorem dX6_car_206 : decode cX6_car 206 = .ok (.aload_n 0, 1) := by decide +kernel
theorem dX6_car_207 : decode cX6_car 207 = .ok (.getfield 20, 3) := by decide +kernel
theorem dX6_car_210 : decode cX6_car 210 = .ok (.invokevirtual 94, 3) := by decide +kernel
theorem dX6_car_213 : decode cX6_car 213 = .ok (.iconst 1, 1) := by decide +kernel
theorem dX6_car_214 : decode cX6_car 214 = .ok (.isub, 1) := by decide +kernel
set_option maxRecDepth 20000 in
theorem ggX6_car_X6_tells : GoodIn wsX6_car wsX6_tells := goodIn_r _ [136, 19, 137, 138, 139, 140, 141, 142, 143, 144, 145, 146, 147, 148] (by decide +kernel) (by decide +kernel)
set_option maxRecDepth 20000 in
theorem gX6_car_X6_tells : GoodIn wsX6_car (wsV RX6 53 RX6 yX6_tells wsX6_tells) := goodIn_app (goodIn_of _ (by decide +kernel)) ggX6_car_X6_tells
theorem dX6_car_215 : decode cX6_car 215 = .ok (.invokevirtual 53, 3) := by decide +kernel
theorem dX6_car_218 : decode cX6_car 218 = .ok (.ireturn, 1) := by decide +kernel
theorem dX6_setDispatcher_0 : decode cX6_setDispatcher 0 = .ok (.aload_n 0, 1) := by decide +kernel
theorem dX6_setDispatcher_1 : decode cX6_setDispatcher 1 = .ok (.iload_n 1, 1) := by decide +kernel
theorem dX6_setDispatcher_2 : decode cX6_setDispatcher 2 = .ok (.bipush 99, 2) := by decide +kernel
theorem dX6_setDispatcher_4 : decode cX6_setDispatcher 4 = .ok (.if_icmp .eq 21, 3) := by decide +kernel
theorem dX6_setDispatcher_25 : decode cX6_setDispatcher 25 = .ok (.iconst 0, 1) := by decide +kernel
theorem dX6_setDispatcher_26 : decode cX6_setDispatcher 26 = .ok (.goto 4, 3) := by decide +kernel
theorem dX6_setDispatcher_30 : decode cX6_setDispatcher 30 = .ok (.putfield 38, 3) := by decide +kernel
theorem dX6_setDispatcher_33 : decode cX6_setDispatcher 33 = .ok (.aload_n 0, 1) := by decide +kernel
theorem dX6_setDispatcher_34 : decode cX6_setDispatcher 34 = .ok (.getfield 13, 3) := by decide +kernel
theorem dX6_setDispatcher_37 : decode cX6_setDispatcher 37 = .ok (.istore_n 2, 1) := by decide +kernel
theorem dX6_setDispatcher_38 : decode cX6_setDispatcher 38 = .ok (.aload_n 0, 1) := by decide +kernel
theorem dX6_setDispatcher_39 : decode cX6_setDispatcher 39 = .ok (.getfield 38, 3) := by decide +kernel
theorem dX6_setDispatcher_42 : decode cX6_setDispatcher 42 = .ok (.ifCond .ne 8, 3) := by decide +kernel
theorem dX6_setDispatcher_45 : decode cX6_setDispatcher 45 = .ok (.aload_n 0, 1) := by decide +kernel
theorem dX6_setDispatcher_46 : decode cX6_setDispatcher 46 = .ok (.iload_n 1, 1) := by decide +kernel
theorem dX6_setDispatcher_47 : decode cX6_setDispatcher 47 = .ok (.putfield 13, 3) := by decide +kernel
theorem dX6_setDispatcher_50 : decode cX6_setDispatcher 50 = .ok (.iload_n 2, 1) := by decide +kernel
theorem dX6_setDispatcher_51 : decode cX6_setDispatcher 51 = .ok (.ireturn, 1) := by decide +kernel
theorem dX6_setDispatcher_7 : decode cX6_setDispatcher 7 = .ok (.iload_n 1, 1) := by decide +kernel
theorem dX6_setDispatcher_8 : decode cX6_setDispatcher 8 = .ok (.bipush 122, 2) := by decide +kernel
theorem dX6_setDispatcher_10 : decode cX6_setDispatcher 10 = .ok (.if_icmp .eq 15, 3) := by decide +kernel
theorem dX6_setDispatcher_13 : decode cX6_setDispatcher 13 = .ok (.iload_n 1, 1) := by decide +kernel
theorem dX6_setDispatcher_14 : decode cX6_setDispatcher 14 = .ok (.bipush 101, 2) := by decide +kernel
theorem dX6_setDispatcher_16 : decode cX6_setDispatcher 16 = .ok (.if_icmp .eq 9, 3) := by decide +kernel
theorem dX6_setDispatcher_19 : decode cX6_setDispatcher 19 = .ok (.iload_n 1, 1) := by decide +kernel
theorem dX6_setDispatcher_20 : decode cX6_setDispatcher 20 = .ok (.bipush 97, 2) := by decide +kernel
theorem dX6_setDispatcher_22 : decode cX6_setDispatcher 22 = .ok (.if_icmp .ne 7, 3) := by decide +kernel
theorem dX6_setDispatcher_29 : decode cX6_setDispatcher 29 = .ok (.iconst 1, 1) := by decide +kernel
theorem dX6_come_0 : decode cX6_come 0 = .ok (.aload_n 0, 1) := by decide +kernel
theorem dX6_come_1 : decode cX6_come 1 = .ok (.iload_n 1, 1) := by decide +kernel
set_option maxRecDepth 20000 in
theorem ggX6_come_X6_isFloor : GoodIn wsX6_come wsX6_isFloor := goodIn_r _ [9, 10, 11, 12, 8, 13, 95, 96, 97, 98, 99, 100, 101, 102, 103, 104, 105, 106] (by decide +kernel) (by decide +kernel)
set_option maxRecDepth 20000 in
theorem gX6_come_X6_isFloor : GoodIn wsX6_come (wsV RX6 56 RX6 yX6_isFloor wsX6_isFloor) := goodIn_app (goodIn_of _ (by decide +kernel)) ggX6_come_X6_isFloor
theorem dX6_come_2 : decode cX6_come 2 = .ok (.invokevirtual 56, 3) := by decide +kernel
theorem dX6_come_5 : decode cX6_come 5 = .ok (.ifCond .eq 45, 3) := by decide +kernel
theorem dX6_come_50 : decode cX6_come 50 = .ok (.aload_n 0, 1) := by decide +kernel
theorem dX6_come_51 : decode cX6_come 51 = .ok (.iconst 1, 1) := by decide +kernel
set_option maxRecDepth 20000 in
theorem ggX6_come_X6_fails : GoodIn wsX6_come wsX6_fails := goodIn_r _ [17, 18, 95, 96, 97, 98, 99, 100, 101, 102, 103, 104, 105, 106] (by decide +kernel) (by decide +kernel)
set_option maxRecDepth 20000 in
theorem gX6_come_X6_fails : GoodIn wsX6_come (wsV RX6 45 RX6 yX6_fails wsX6_fails) := goodIn_app (goodIn_of _ (by decide +kernel)) ggX6_come_X6_fails
theorem dX6_come_52 : decode cX6_come 52 = .ok (.invokevirtual 45, 3) := by decide +kernel
theorem dX6_come_55 : decode cX6_come 55 = .ok (.ireturn, 1) := by decide +kernel
theorem dX6_come_8 : decode cX6_come 8 = .ok (.aload_n 0, 1) := by decide +kernel
theorem dX6_come_9 : decode cX6_come 9 = .ok (.iload_n 2, 1) := by decide +kernel
theorem dX6_come_10 : decode cX6_come 10 = .ok (.invokevirtual 56, 3) := by decide +kernel
theorem dX6_come_13 : decode cX6_come 13 = .ok (.ifCond .eq 37, 3) := by decide +kernel
theorem dX6_come_16 : decode cX6_come 16 = .ok (.iload_n 1, 1) := by decide +kernel
theorem dX6_come_17 : decode cX6_come 17 = .ok (.iload_n 2, 1) := by decide +kernel
theorem dX6_come_18 : decode cX6_come 18 = .ok (.if_icmp .eq 32, 3) := by decide +kernel
theorem dX6_come_21 : decode cX6_come 21 = .ok (.iload_n 3, 1) := by decide +kernel
theorem dX6_come_22 : decode cX6_come 22 = .ok (.bipush 10, 2) := by decide +kernel
theorem dX6_come_24 : decode cX6_come 24 = .ok (.sipush 200, 3) := by decide +kernel
set_option maxRecDepth 20000 in
theorem ggX6_come_X6_in : GoodIn wsX6_come wsX6_in := goodIn_r _ [13] (by decide +kernel) (by decide +kernel)
set_option maxRecDepth 20000 in
theorem gX6_come_X6_in : GoodIn wsX6_come (va_wsS RX6 41 yX6_in wsX6_in) := goodIn_app (goodIn_of _ (by decide +kernel)) ggX6_come_X6_in
theorem dX6_come_27 : decode cX6_come 27 = .ok (.invokestatic 41, 3) := by decide +kernel
theorem dX6_come_30 : decode cX6_come 30 = .ok (.ifCond .eq 20, 3) := by decide +kernel
theorem dX6_come_33 : decode cX6_come 33 = .ok (.iload 4, 2) := by decide +kernel
theorem dX6_come_35 : decode cX6_come 35 = .ok (.iconst 1, 1) := by decide +kernel
theorem dX6_come_36 : decode cX6_come 36 = .ok (.sipush 999, 3) := by decide +kernel
theorem dX6_come_39 : decode cX6_come 39 = .ok (.invokestatic 41, 3) := by decide +kernel
theorem dX6_come_42 : decode cX6_come 42 = .ok (.ifCond .eq 8, 3) := by decide +kernel
theorem dX6_come_45 : decode cX6_come 45 = .ok (.iload 5, 2) := by decide +kernel
theorem dX6_come_47 : decode cX6_come 47 = .ok (.ifCond .ge 9, 3) := by decide +kernel
theorem dX6_come_56 : decode cX6_come 56 = .ok (.aload_n 0, 1) := by decide +kernel
theorem dX6_come_57 : decode cX6_come 57 = .ok (.getfield 24, 3) := by decide +kernel
set_option maxRecDepth 20000 in
theorem ggX6_come_Jx4a65c_size_8abf5 : GoodIn wsX6_come wsJx4a65c_size_8abf5 := goodIn_r _ [23, 24, 115, 116, 117] (by decide +kernel) (by decide +kernel)
set_option maxRecDepth 20000 in
theorem gX6_come_Jx4a65c_size_8abf5 : GoodIn wsX6_come (wsV RX6 94 RJx4a65c yJx4a65c_size_8abf5 wsJx4a65c_size_8abf5) := goodIn_app (goodIn_of _ (by decide +kernel)) ggX6_come_Jx4a65c_size_8abf5
theorem dX6_come_60 : decode cX6_come 60 = .ok (.invokevirtual 94, 3) := by decide +kernel
theorem dX6_come_63 : decode cX6_come 63 = .ok (.bipush 60, 2) := by decide +kernel
theorem dX6_come_65 : decode cX6_come 65 = .ok (.if_icmp .ne 9, 3) := by decide +kernel
theorem dX6_come_74 : decode cX6_come 74 = .ok (.new 105, 3) := by decide +kernel
theorem dX6_come_77 : decode cX6_come 77 = .ok (.dup, 1) := by decide +kernel
theorem dX6_come_78 : decode cX6_come 78 = .ok (.aload_n 0, 1) := by decide +kernel
theorem dX6_come_79 : decode cX6_come 79 = .ok (.getfield 24, 3) := by decide +kernel
theorem dX6_come_82 : decode cX6_come 82 = .ok (.invokevirtual 94, 3) := by decide +kernel
theorem dX6_come_85 : decode cX6_come 85 = .ok (.iload_n 1, 1) := by decide +kernel
theorem dX6_come_86 : decode cX6_come 86 = .ok (.iload_n 2, 1) := by decide +kernel
theorem dX6_come_87 : decode cX6_come 87 = .ok (.iload_n 3, 1) := by decide +kernel
theorem dX6_come_88 : decode cX6_come 88 = .ok (.iload 4, 2) := by decide +kernel
set_option maxRecDepth 20000 in
theorem ggX6_come_X5_init : GoodIn wsX6_come wsX5_init := goodIn_r _ [27, 28, 29, 30, 31, 32, 33, 34, 35, 36, 107, 108, 109, 110, 111, 112, 113, 114] (by decide +kernel) (by decide +kernel)
set_option maxRecDepth 20000 in
theorem gX6_come_X5_init : GoodIn wsX6_come (wsX5_init) := ggX6_come_X5_init
theorem dX6_come_90 : decode cX6_come 90 = .ok (.invokespecial 107, 3) := by decide +kernel
theorem dX6_come_93 : decode cX6_come 93 = .ok (.astore 6, 2) := by decide +kernel
theorem dX6_come_95 : decode cX6_come 95 = .ok (.iload 5, 2) := by decide +kernel
theorem dX6_come_97 : decode cX6_come 97 = .ok (.iload_n 2, 1) := by decide +kernel
theorem dX6_come_98 : decode cX6_come 98 = .ok (.ishr, 1) := by decide +kernel
theorem dX6_come_99 : decode cX6_come 99 = .ok (.iconst 1, 1) := by decide +kernel
theorem dX6_come_100 : decode cX6_come 100 = .ok (.iand, 1) := by decide +kernel
theorem dX6_come_101 : decode cX6_come 101 = .ok (.iconst 1, 1) := by decide +kernel
theorem dX6_come_102 : decode cX6_come 102 = .ok (.if_icmp .ne 10, 3) := by decide +kernel
theorem dX6_come_112 : decode cX6_come 112 = .ok (.aload_n 0, 1) := by decide +kernel
theorem dX6_come_113 : decode cX6_come 113 = .ok (.getfield 24, 3) := by decide +kernel
theorem dX6_come_116 : decode cX6_come 116 = .ok (.aload 6, 2) := by decide +kernel
set_option maxRecDepth 20000 in
theorem ggX6_come_Jx4a65c_add_9ea2d : GoodIn wsX6_come wsJx4a65c_add_9ea2d := goodIn_r _ [40, 41, 42, 43, 24, 44, 45, 46, 22, 47, 48, 49, 50, 51, 52, 53, 54, 55, 56, 57, 58, 59, 60, 61, 62, 63, 64, 65, 66, 67, 68, 69, 70, 71, 72, 73, 74, 75, 76, 77, 78, 79, 80, 81, 82, 83, 84, 85, 86, 87, 88, 89, 90, 115, 116, 117] (by decide +kernel) (by decide +kernel)
set_option maxRecDepth 20000 in
theorem gX6_come_Jx4a65c_add_9ea2d : GoodIn wsX6_come (wsV RX6 101 RJx4a65c yJx4a65c_add_9ea2d wsJx4a65c_add_9ea2d) := goodIn_app (goodIn_of _ (by decide +kernel)) ggX6_come_Jx4a65c_add_9ea2d
theorem dX6_come_118 : decode cX6_come 118 = .ok (.invokevirtual 101, 3) := by decide +kernel
theorem dX6_come_121 : decode cX6_come 121 = .ok (.pop, 1) := by decide +kernel
theorem dX6_come_122 : decode cX6_come 122 = .ok (.aload_n 0, 1) := by decide +kernel
theorem dX6_come_123 : decode cX6_come 123 = .ok (.aload 6, 2) := by decide +kernel
theorem dX6_come_125 : decode cX6_come 125 = .ok (.getfield 113, 3) := by decide +kernel
set_option maxRecDepth 20000 in
theorem ggX6_come_X6_tells : GoodIn wsX6_come wsX6_tells := goodIn_r _ [94, 18, 95, 96, 97, 98, 99, 100, 101, 102, 103, 104, 105, 106] (by decide +kernel) (by decide +kernel)
set_option maxRecDepth 20000 in
theorem gX6_come_X6_tells : GoodIn wsX6_come (wsV RX6 53 RX6 yX6_tells wsX6_tells) := goodIn_app (goodIn_of _ (by decide +kernel)) ggX6_come_X6_tells
theorem dX6_come_128 : decode cX6_come 128 = .ok (.invokevirtual 53, 3) := by decide +kernel
theorem dX6_come_131 : decode cX6_come 131 = .ok (.ireturn, 1) := by decide +kernel
theorem dX6_come_105 : decode cX6_come 105 = .ok (.aload 6, 2) := by decide +kernel
theorem dX6_come_107 : decode cX6_come 107 = .ok (.bipush 114, 2) := by decide +kernel
theorem dX6_come_109 : decode cX6_come 109 = .ok (.putfield 110, 3) := by decide +kernel
theorem dX6_park_0 : decode cX6_park 0 = .ok (.aload_n 0, 1) := by decide +kernel
theorem dX6_park_1 : decode cX6_park 1 = .ok (.iload_n 1, 1) := by decide +kernel
set_option maxRecDepth 20000 in
theorem ggX6_park_X6_isCar : GoodIn wsX6_park wsX6_isCar := goodIn_r _ [7, 1, 8, 9, 10, 11, 12, 13, 14, 15, 6, 16, 48, 49, 50, 51, 52, 53, 54, 55, 56, 57, 58, 59, 74, 75, 76] (by decide +kernel) (by decide +kernel)
set_option maxRecDepth 20000 in
theorem gX6_park_X6_isCar : GoodIn wsX6_park (wsV RX6 116 RX6 yX6_isCar wsX6_isCar) := goodIn_app (goodIn_of _ (by decide +kernel)) ggX6_park_X6_isCar
theorem dX6_park_2 : decode cX6_park 2 = .ok (.invokevirtual 116, 3) := by decide +kernel
theorem dX6_park_5 : decode cX6_park 5 = .ok (.ifCond .ne 9, 3) := by decide +kernel
theorem dX6_park_8 : decode cX6_park 8 = .ok (.aload_n 0, 1) := by decide +kernel
theorem dX6_park_9 : decode cX6_park 9 = .ok (.iconst 1, 1) := by decide +kernel
set_option maxRecDepth 20000 in
theorem ggX6_park_X6_fails : GoodIn wsX6_park wsX6_fails := goodIn_r _ [20, 21, 48, 49, 50, 51, 52, 53, 54, 55, 56, 57, 58, 59] (by decide +kernel) (by decide +kernel)
set_option maxRecDepth 20000 in
theorem gX6_park_X6_fails : GoodIn wsX6_park (wsV RX6 45 RX6 yX6_fails wsX6_fails) := goodIn_app (goodIn_of _ (by decide +kernel)) ggX6_park_X6_fails
theorem dX6_park_10 : decode cX6_park 10 = .ok (.invokevirtual 45, 3) := by decide +kernel
theorem dX6_park_13 : decode cX6_park 13 = .ok (.ireturn, 1) := by decide +kernel
theorem dX6_serves_0 : decode cX6_serves 0 = .ok (.aload_n 0, 1) := by decide +kernel
theorem dX6_serves_1 : decode cX6_serves 1 = .ok (.aload_n 0, 1) := by decide +kernel
theorem dX6_serves_2 : decode cX6_serves 2 = .ok (.iload_n 1, 1) := by decide +kernel
set_option maxRecDepth 20000 in
theorem ggX6_serves_X6_isCar : GoodIn wsX6_serves wsX6_isCar := goodIn_r _ [8, 2, 9, 10, 11, 12, 13, 14, 15, 16, 7, 17, 53, 54, 55, 56, 57, 58, 59, 60, 61, 62, 63, 64, 65, 66, 67] (by decide +kernel) (by decide +kernel)
set_option maxRecDepth 20000 in
theorem gX6_serves_X6_isCar : GoodIn wsX6_serves (wsV RX6 116 RX6 yX6_isCar wsX6_isCar) := goodIn_app (goodIn_of _ (by decide +kernel)) ggX6_serves_X6_isCar
theorem dX6_serves_3 : decode cX6_serves 3 = .ok (.invokevirtual 116, 3) := by decide +kernel
theorem dX6_serves_6 : decode cX6_serves 6 = .ok (.ifCond .ne 7, 3) := by decide +kernel
theorem dX6_serves_9 : decode cX6_serves 9 = .ok (.iconst 1, 1) := by decide +kernel
theorem dX6_serves_10 : decode cX6_serves 10 = .ok (.goto 16, 3) := by decide +kernel
theorem dX6_serves_26 : decode cX6_serves 26 = .ok (.putfield 38, 3) := by decide +kernel
theorem dX6_serves_29 : decode cX6_serves 29 = .ok (.aload_n 0, 1) := by decide +kernel
theorem dX6_serves_30 : decode cX6_serves 30 = .ok (.getfield 38, 3) := by decide +kernel
theorem dX6_serves_33 : decode cX6_serves 33 = .ok (.ifCond .ne 25, 3) := by decide +kernel
theorem dX6_serves_58 : decode cX6_serves 58 = .ok (.iconst 0, 1) := by decide +kernel
theorem dX6_serves_59 : decode cX6_serves 59 = .ok (.ireturn, 1) := by decide +kernel
theorem dX6_floorOf_0 : decode cX6_floorOf 0 = .ok (.aload_n 0, 1) := by decide +kernel
theorem dX6_floorOf_1 : decode cX6_floorOf 1 = .ok (.iload_n 1, 1) := by decide +kernel
set_option maxRecDepth 20000 in
theorem ggX6_floorOf_X6_isCar : GoodIn wsX6_floorOf wsX6_isCar := goodIn_r _ [7, 1, 8, 9, 10, 11, 12, 13, 14, 15, 6, 16, 43, 44, 45, 46, 47, 48, 49, 50, 51, 52, 53, 54, 69, 70, 71] (by decide +kernel) (by decide +kernel)
set_option maxRecDepth 20000 in
theorem gX6_floorOf_X6_isCar : GoodIn wsX6_floorOf (wsV RX6 116 RX6 yX6_isCar wsX6_isCar) := goodIn_app (goodIn_of _ (by decide +kernel)) ggX6_floorOf_X6_isCar
theorem dX6_floorOf_2 : decode cX6_floorOf 2 = .ok (.invokevirtual 116, 3) := by decide +kernel
theorem dX6_floorOf_5 : decode cX6_floorOf 5 = .ok (.ifCond .eq 24, 3) := by decide +kernel
theorem dX6_floorOf_29 : decode cX6_floorOf 29 = .ok (.aload_n 0, 1) := by decide +kernel
theorem dX6_floorOf_30 : decode cX6_floorOf 30 = .ok (.iconst 1, 1) := by decide +kernel
set_option maxRecDepth 20000 in
theorem ggX6_floorOf_X6_fails : GoodIn wsX6_floorOf wsX6_fails := goodIn_r _ [42, 38, 43, 44, 45, 46, 47, 48, 49, 50, 51, 52, 53, 54] (by decide +kernel) (by decide +kernel)
set_option maxRecDepth 20000 in
theorem gX6_floorOf_X6_fails : GoodIn wsX6_floorOf (wsV RX6 45 RX6 yX6_fails wsX6_fails) := goodIn_app (goodIn_of _ (by decide +kernel)) ggX6_floorOf_X6_fails
theorem dX6_floorOf_31 : decode cX6_floorOf 31 = .ok (.invokevirtual 45, 3) := by decide +kernel
theorem dX6_floorOf_34 : decode cX6_floorOf 34 = .ok (.ireturn, 1) := by decide +kernel
theorem dX6_floorByLog_0 : decode cX6_floorByLog 0 = .ok (.aload_n 0, 1) := by decide +kernel
theorem dX6_floorByLog_1 : decode cX6_floorByLog 1 = .ok (.iload_n 1, 1) := by decide +kernel
set_option maxRecDepth 20000 in
theorem ggX6_floorByLog_X6_isCar : GoodIn wsX6_floorByLog wsX6_isCar := goodIn_r _ [9, 1, 10, 11, 12, 13, 14, 15, 16, 17, 8, 18, 77, 78, 79, 80, 81, 82, 83, 84, 85, 86, 87, 88, 103, 104, 105] (by decide +kernel) (by decide +kernel)
set_option maxRecDepth 20000 in
theorem gX6_floorByLog_X6_isCar : GoodIn wsX6_floorByLog (wsV RX6 116 RX6 yX6_isCar wsX6_isCar) := goodIn_app (goodIn_of _ (by decide +kernel)) ggX6_floorByLog_X6_isCar
theorem dX6_floorByLog_2 : decode cX6_floorByLog 2 = .ok (.invokevirtual 116, 3) := by decide +kernel
theorem dX6_floorByLog_5 : decode cX6_floorByLog 5 = .ok (.ifCond .ne 9, 3) := by decide +kernel
theorem dX6_floorByLog_8 : decode cX6_floorByLog 8 = .ok (.aload_n 0, 1) := by decide +kernel
theorem dX6_floorByLog_9 : decode cX6_floorByLog 9 = .ok (.iconst 1, 1) := by decide +kernel
set_option maxRecDepth 20000 in
theorem ggX6_floorByLog_X6_fails : GoodIn wsX6_floorByLog wsX6_fails := goodIn_r _ [22, 23, 77, 78, 79, 80, 81, 82, 83, 84, 85, 86, 87, 88] (by decide +kernel) (by decide +kernel)
set_option maxRecDepth 20000 in
theorem gX6_floorByLog_X6_fails : GoodIn wsX6_floorByLog (wsV RX6 45 RX6 yX6_fails wsX6_fails) := goodIn_app (goodIn_of _ (by decide +kernel)) ggX6_floorByLog_X6_fails
theorem dX6_floorByLog_10 : decode cX6_floorByLog 10 = .ok (.invokevirtual 45, 3) := by decide +kernel
theorem dX6_floorByLog_13 : decode cX6_floorByLog 13 = .ok (.ireturn, 1) := by decide +kernel
theorem dX6_directionOf_0 : decode cX6_directionOf 0 = .ok (.aload_n 0, 1) := by decide +kernel
theorem dX6_directionOf_1 : decode cX6_directionOf 1 = .ok (.aload_n 0, 1) := by decide +kernel
theorem dX6_directionOf_2 : decode cX6_directionOf 2 = .ok (.iload_n 1, 1) := by decide +kernel
set_option maxRecDepth 20000 in
theorem ggX6_directionOf_X6_isCar : GoodIn wsX6_directionOf wsX6_isCar := goodIn_r _ [8, 2, 9, 10, 11, 12, 13, 14, 15, 16, 7, 17, 35, 36, 37, 38, 39, 40, 41, 42, 43, 44, 45, 46, 61, 62, 63] (by decide +kernel) (by decide +kernel)
set_option maxRecDepth 20000 in
theorem gX6_directionOf_X6_isCar : GoodIn wsX6_directionOf (wsV RX6 116 RX6 yX6_isCar wsX6_isCar) := goodIn_app (goodIn_of _ (by decide +kernel)) ggX6_directionOf_X6_isCar
theorem dX6_directionOf_3 : decode cX6_directionOf 3 = .ok (.invokevirtual 116, 3) := by decide +kernel
theorem dX6_directionOf_6 : decode cX6_directionOf 6 = .ok (.ifCond .eq 7, 3) := by decide +kernel
theorem dX6_directionOf_13 : decode cX6_directionOf 13 = .ok (.iconst 1, 1) := by decide +kernel
theorem dX6_directionOf_14 : decode cX6_directionOf 14 = .ok (.putfield 38, 3) := by decide +kernel
theorem dX6_directionOf_17 : decode cX6_directionOf 17 = .ok (.aload_n 0, 1) := by decide +kernel
theorem dX6_directionOf_18 : decode cX6_directionOf 18 = .ok (.getfield 38, 3) := by decide +kernel
theorem dX6_directionOf_21 : decode cX6_directionOf 21 = .ok (.ifCond .le 6, 3) := by decide +kernel
theorem dX6_directionOf_24 : decode cX6_directionOf 24 = .ok (.bipush 32, 2) := by decide +kernel
theorem dX6_directionOf_26 : decode cX6_directionOf 26 = .ok (.ireturn, 1) := by decide +kernel
theorem dX6_isOpen_0 : decode cX6_isOpen 0 = .ok (.aload_n 0, 1) := by decide +kernel
theorem dX6_isOpen_1 : decode cX6_isOpen 1 = .ok (.aload_n 0, 1) := by decide +kernel
theorem dX6_isOpen_2 : decode cX6_isOpen 2 = .ok (.iload_n 1, 1) := by decide +kernel
set_option maxRecDepth 20000 in
theorem ggX6_isOpen_X6_isCar : GoodIn wsX6_isOpen wsX6_isCar := goodIn_r _ [8, 2, 9, 10, 11, 12, 13, 14, 15, 16, 7, 17, 35, 36, 37, 38, 39, 40, 41, 42, 43, 44, 45, 46, 61, 62, 63] (by decide +kernel) (by decide +kernel)
set_option maxRecDepth 20000 in
theorem gX6_isOpen_X6_isCar : GoodIn wsX6_isOpen (wsV RX6 116 RX6 yX6_isCar wsX6_isCar) := goodIn_app (goodIn_of _ (by decide +kernel)) ggX6_isOpen_X6_isCar
theorem dX6_isOpen_3 : decode cX6_isOpen 3 = .ok (.invokevirtual 116, 3) := by decide +kernel
theorem dX6_isOpen_6 : decode cX6_isOpen 6 = .ok (.ifCond .eq 7, 3) := by decide +kernel
theorem dX6_isOpen_13 : decode cX6_isOpen 13 = .ok (.iconst 1, 1) := by decide +kernel
theorem dX6_isOpen_14 : decode cX6_isOpen 14 = .ok (.putfield 38, 3) := by decide +kernel
theorem dX6_isOpen_17 : decode cX6_isOpen 17 = .ok (.aload_n 0, 1) := by decide +kernel
theorem dX6_isOpen_18 : decode cX6_isOpen 18 = .ok (.getfield 38, 3) := by decide +kernel
theorem dX6_isOpen_21 : decode cX6_isOpen 21 = .ok (.ifCond .ne 24, 3) := by decide +kernel
theorem dX6_isOpen_45 : decode cX6_isOpen 45 = .ok (.iconst 0, 1) := by decide +kernel
theorem dX6_isOpen_46 : decode cX6_isOpen 46 = .ok (.ireturn, 1) := by decide +kernel
theorem dX6_load_0 : decode cX6_load 0 = .ok (.aload_n 0, 1) := by decide +kernel
theorem dX6_load_1 : decode cX6_load 1 = .ok (.iload_n 1, 1) := by decide +kernel
set_option maxRecDepth 20000 in
theorem ggX6_load_X6_isCar : GoodIn wsX6_load wsX6_isCar := goodIn_r _ [7, 1, 8, 9, 10, 11, 12, 13, 14, 15, 6, 16, 82, 83, 84, 85, 86, 87, 88, 89, 90, 91, 92, 93, 94, 95, 96] (by decide +kernel) (by decide +kernel)
set_option maxRecDepth 20000 in
theorem gX6_load_X6_isCar : GoodIn wsX6_load (wsV RX6 116 RX6 yX6_isCar wsX6_isCar) := goodIn_app (goodIn_of _ (by decide +kernel)) ggX6_load_X6_isCar
theorem dX6_load_2 : decode cX6_load 2 = .ok (.invokevirtual 116, 3) := by decide +kernel
theorem dX6_load_5 : decode cX6_load 5 = .ok (.ifCond .eq 24, 3) := by decide +kernel
theorem dX6_load_29 : decode cX6_load 29 = .ok (.aload_n 0, 1) := by decide +kernel
theorem dX6_load_30 : decode cX6_load 30 = .ok (.iconst 1, 1) := by decide +kernel
set_option maxRecDepth 20000 in
theorem ggX6_load_X6_fails : GoodIn wsX6_load wsX6_fails := goodIn_r _ [81, 77, 82, 83, 84, 85, 86, 87, 88, 89, 90, 91, 92, 93] (by decide +kernel) (by decide +kernel)
set_option maxRecDepth 20000 in
theorem gX6_load_X6_fails : GoodIn wsX6_load (wsV RX6 45 RX6 yX6_fails wsX6_fails) := goodIn_app (goodIn_of _ (by decide +kernel)) ggX6_load_X6_fails
theorem dX6_load_31 : decode cX6_load 31 = .ok (.invokevirtual 45, 3) := by decide +kernel
theorem dX6_load_34 : decode cX6_load 34 = .ok (.ireturn, 1) := by decide +kernel
theorem dX6_stops_0 : decode cX6_stops 0 = .ok (.aload_n 0, 1) := by decide +kernel
theorem dX6_stops_1 : decode cX6_stops 1 = .ok (.iload_n 1, 1) := by decide +kernel
set_option maxRecDepth 20000 in
theorem ggX6_stops_X6_isCar : GoodIn wsX6_stops wsX6_isCar := goodIn_r _ [7, 1, 8, 9, 10, 11, 12, 13, 14, 15, 6, 16, 86, 87, 88, 89, 90, 91, 92, 93, 94, 95, 96, 97, 98, 99, 100] (by decide +kernel) (by decide +kernel)
set_option maxRecDepth 20000 in
theorem gX6_stops_X6_isCar : GoodIn wsX6_stops (wsV RX6 116 RX6 yX6_isCar wsX6_isCar) := goodIn_app (goodIn_of _ (by decide +kernel)) ggX6_stops_X6_isCar
theorem dX6_stops_2 : decode cX6_stops 2 = .ok (.invokevirtual 116, 3) := by decide +kernel
theorem dX6_stops_5 : decode cX6_stops 5 = .ok (.ifCond .eq 24, 3) := by decide +kernel
theorem dX6_stops_29 : decode cX6_stops 29 = .ok (.aload_n 0, 1) := by decide +kernel
theorem dX6_stops_30 : decode cX6_stops 30 = .ok (.iconst 1, 1) := by decide +kernel
set_option maxRecDepth 20000 in
theorem ggX6_stops_X6_fails : GoodIn wsX6_stops wsX6_fails := goodIn_r _ [85, 81, 86, 87, 88, 89, 90, 91, 92, 93, 94, 95, 96, 97] (by decide +kernel) (by decide +kernel)
set_option maxRecDepth 20000 in
theorem gX6_stops_X6_fails : GoodIn wsX6_stops (wsV RX6 45 RX6 yX6_fails wsX6_fails) := goodIn_app (goodIn_of _ (by decide +kernel)) ggX6_stops_X6_fails
theorem dX6_stops_31 : decode cX6_stops 31 = .ok (.invokevirtual 45, 3) := by decide +kernel
theorem dX6_stops_34 : decode cX6_stops 34 = .ok (.ireturn, 1) := by decide +kernel
theorem dX6_timeFor_0 : decode cX6_timeFor 0 = .ok (.aload_n 0, 1) := by decide +kernel
theorem dX6_timeFor_1 : decode cX6_timeFor 1 = .ok (.iload_n 1, 1) := by decide +kernel
set_option maxRecDepth 20000 in
theorem ggX6_timeFor_X6_isCar : GoodIn wsX6_timeFor wsX6_isCar := goodIn_r _ [7, 1, 8, 9, 10, 11, 12, 13, 14, 15, 6, 16, 102, 103, 104, 105, 106, 107, 108, 109, 110, 111, 112, 113, 114, 115, 116] (by decide +kernel) (by decide +kernel)
set_option maxRecDepth 20000 in
theorem gX6_timeFor_X6_isCar : GoodIn wsX6_timeFor (wsV RX6 116 RX6 yX6_isCar wsX6_isCar) := goodIn_app (goodIn_of _ (by decide +kernel)) ggX6_timeFor_X6_isCar
theorem dX6_timeFor_2 : decode cX6_timeFor 2 = .ok (.invokevirtual 116, 3) := by decide +kernel
theorem dX6_timeFor_5 : decode cX6_timeFor 5 = .ok (.ifCond .ne 11, 3) := by decide +kernel
theorem dX6_timeFor_8 : decode cX6_timeFor 8 = .ok (.aload_n 0, 1) := by decide +kernel
theorem dX6_timeFor_9 : decode cX6_timeFor 9 = .ok (.iconst 1, 1) := by decide +kernel
set_option maxRecDepth 20000 in
theorem ggX6_timeFor_X6_fails : GoodIn wsX6_timeFor wsX6_fails := goodIn_r _ [20, 21, 102, 103, 104, 105, 106, 107, 108, 109, 110, 111, 112, 113] (by decide +kernel) (by decide +kernel)
set_option maxRecDepth 20000 in
theorem gX6_timeFor_X6_fails : GoodIn wsX6_timeFor (wsV RX6 45 RX6 yX6_fails wsX6_fails) := goodIn_app (goodIn_of _ (by decide +kernel)) ggX6_timeFor_X6_fails
theorem dX6_timeFor_10 : decode cX6_timeFor 10 = .ok (.invokevirtual 45, 3) := by decide +kernel
theorem dX6_timeFor_13 : decode cX6_timeFor 13 = .ok (.goto 47, 3) := by decide +kernel
theorem dX6_timeFor_60 : decode cX6_timeFor 60 = .ok (.ireturn, 1) := by decide +kernel
theorem dX6_priceFor_0 : decode cX6_priceFor 0 = .ok (.aload_n 0, 1) := by decide +kernel
theorem dX6_priceFor_1 : decode cX6_priceFor 1 = .ok (.iload_n 1, 1) := by decide +kernel
set_option maxRecDepth 20000 in
theorem ggX6_priceFor_X6_isCar : GoodIn wsX6_priceFor wsX6_isCar := goodIn_r _ [7, 1, 8, 9, 10, 11, 12, 13, 14, 15, 6, 16, 114, 115, 116, 117, 118, 119, 120, 121, 122, 123, 124, 125, 126, 127, 128] (by decide +kernel) (by decide +kernel)
set_option maxRecDepth 20000 in
theorem gX6_priceFor_X6_isCar : GoodIn wsX6_priceFor (wsV RX6 116 RX6 yX6_isCar wsX6_isCar) := goodIn_app (goodIn_of _ (by decide +kernel)) ggX6_priceFor_X6_isCar
theorem dX6_priceFor_2 : decode cX6_priceFor 2 = .ok (.invokevirtual 116, 3) := by decide +kernel
theorem dX6_priceFor_5 : decode cX6_priceFor 5 = .ok (.ifCond .ne 11, 3) := by decide +kernel
theorem dX6_priceFor_8 : decode cX6_priceFor 8 = .ok (.aload_n 0, 1) := by decide +kernel
theorem dX6_priceFor_9 : decode cX6_priceFor 9 = .ok (.iconst 1, 1) := by decide +kernel
set_option maxRecDepth 20000 in
theorem ggX6_priceFor_X6_fails : GoodIn wsX6_priceFor wsX6_fails := goodIn_r _ [20, 21, 114, 115, 116, 117, 118, 119, 120, 121, 122, 123, 124, 125] (by decide +kernel) (by decide +kernel)
set_option maxRecDepth 20000 in
theorem gX6_priceFor_X6_fails : GoodIn wsX6_priceFor (wsV RX6 45 RX6 yX6_fails wsX6_fails) := goodIn_app (goodIn_of _ (by decide +kernel)) ggX6_priceFor_X6_fails
theorem dX6_priceFor_10 : decode cX6_priceFor 10 = .ok (.invokevirtual 45, 3) := by decide +kernel
theorem dX6_priceFor_13 : decode cX6_priceFor 13 = .ok (.goto 47, 3) := by decide +kernel
theorem dX6_priceFor_60 : decode cX6_priceFor 60 = .ok (.ireturn, 1) := by decide +kernel
theorem dX6_fail_0 : decode cX6_fail 0 = .ok (.aload_n 0, 1) := by decide +kernel
theorem dX6_fail_1 : decode cX6_fail 1 = .ok (.aload_n 0, 1) := by decide +kernel
theorem dX6_fail_2 : decode cX6_fail 2 = .ok (.iload_n 1, 1) := by decide +kernel
set_option maxRecDepth 20000 in
theorem ggX6_fail_X6_isCar : GoodIn wsX6_fail wsX6_isCar := goodIn_r _ [8, 2, 9, 10, 11, 12, 13, 14, 15, 16, 7, 17, 40, 41, 42, 43, 44, 45, 46, 47, 48, 49, 50, 51, 66, 67, 68] (by decide +kernel) (by decide +kernel)
set_option maxRecDepth 20000 in
theorem gX6_fail_X6_isCar : GoodIn wsX6_fail (wsV RX6 116 RX6 yX6_isCar wsX6_isCar) := goodIn_app (goodIn_of _ (by decide +kernel)) ggX6_fail_X6_isCar
theorem dX6_fail_3 : decode cX6_fail 3 = .ok (.invokevirtual 116, 3) := by decide +kernel
theorem dX6_fail_6 : decode cX6_fail 6 = .ok (.ifCond .eq 7, 3) := by decide +kernel
theorem dX6_fail_13 : decode cX6_fail 13 = .ok (.iconst 1, 1) := by decide +kernel
theorem dX6_fail_14 : decode cX6_fail 14 = .ok (.putfield 38, 3) := by decide +kernel
theorem dX6_fail_17 : decode cX6_fail 17 = .ok (.aload_n 0, 1) := by decide +kernel
theorem dX6_fail_18 : decode cX6_fail 18 = .ok (.getfield 38, 3) := by decide +kernel
theorem dX6_fail_21 : decode cX6_fail 21 = .ok (.ifCond .le 5, 3) := by decide +kernel
theorem dX6_fail_24 : decode cX6_fail 24 = .ok (.iconst 0, 1) := by decide +kernel
theorem dX6_fail_25 : decode cX6_fail 25 = .ok (.ireturn, 1) := by decide +kernel
theorem dX6_state_0 : decode cX6_state 0 = .ok (.aload_n 0, 1) := by decide +kernel
theorem dX6_state_1 : decode cX6_state 1 = .ok (.aload_n 0, 1) := by decide +kernel
theorem dX6_state_2 : decode cX6_state 2 = .ok (.iload_n 1, 1) := by decide +kernel
set_option maxRecDepth 20000 in
theorem ggX6_state_X6_isPerson : GoodIn wsX6_state wsX6_isPerson := goodIn_r _ [8, 2, 9, 10, 11, 12, 13, 14, 15, 16, 7, 17, 35, 36, 37, 38, 39, 40, 41, 42, 43, 44, 45, 46, 55, 56, 57] (by decide +kernel) (by decide +kernel)
set_option maxRecDepth 20000 in
theorem gX6_state_X6_isPerson : GoodIn wsX6_state (wsV RX6 129 RX6 yX6_isPerson wsX6_isPerson) := goodIn_app (goodIn_of _ (by decide +kernel)) ggX6_state_X6_isPerson
theorem dX6_state_3 : decode cX6_state 3 = .ok (.invokevirtual 129, 3) := by decide +kernel
theorem dX6_state_6 : decode cX6_state 6 = .ok (.ifCond .eq 7, 3) := by decide +kernel
theorem dX6_state_13 : decode cX6_state 13 = .ok (.iconst 1, 1) := by decide +kernel
theorem dX6_state_14 : decode cX6_state 14 = .ok (.putfield 38, 3) := by decide +kernel
theorem dX6_state_17 : decode cX6_state 17 = .ok (.aload_n 0, 1) := by decide +kernel
theorem dX6_state_18 : decode cX6_state 18 = .ok (.getfield 38, 3) := by decide +kernel
theorem dX6_state_21 : decode cX6_state 21 = .ok (.ifCond .le 8, 3) := by decide +kernel
theorem dX6_state_24 : decode cX6_state 24 = .ok (.bipush 32, 2) := by decide +kernel
theorem dX6_state_26 : decode cX6_state 26 = .ok (.goto 17, 3) := by decide +kernel
theorem dX6_state_43 : decode cX6_state 43 = .ok (.ireturn, 1) := by decide +kernel
theorem dX6_placeOf_0 : decode cX6_placeOf 0 = .ok (.aload_n 0, 1) := by decide +kernel
theorem dX6_placeOf_1 : decode cX6_placeOf 1 = .ok (.iload_n 1, 1) := by decide +kernel
set_option maxRecDepth 20000 in
theorem ggX6_placeOf_X6_isPerson : GoodIn wsX6_placeOf wsX6_isPerson := goodIn_r _ [7, 1, 8, 9, 10, 11, 12, 13, 14, 15, 6, 16, 43, 44, 45, 46, 47, 48, 49, 50, 51, 52, 53, 54, 77, 78, 79] (by decide +kernel) (by decide +kernel)
set_option maxRecDepth 20000 in
theorem gX6_placeOf_X6_isPerson : GoodIn wsX6_placeOf (wsV RX6 129 RX6 yX6_isPerson wsX6_isPerson) := goodIn_app (goodIn_of _ (by decide +kernel)) ggX6_placeOf_X6_isPerson
theorem dX6_placeOf_2 : decode cX6_placeOf 2 = .ok (.invokevirtual 129, 3) := by decide +kernel
theorem dX6_placeOf_5 : decode cX6_placeOf 5 = .ok (.ifCond .ne 9, 3) := by decide +kernel
theorem dX6_placeOf_8 : decode cX6_placeOf 8 = .ok (.aload_n 0, 1) := by decide +kernel
theorem dX6_placeOf_9 : decode cX6_placeOf 9 = .ok (.iconst 1, 1) := by decide +kernel
set_option maxRecDepth 20000 in
theorem ggX6_placeOf_X6_fails : GoodIn wsX6_placeOf wsX6_fails := goodIn_r _ [20, 21, 43, 44, 45, 46, 47, 48, 49, 50, 51, 52, 53, 54] (by decide +kernel) (by decide +kernel)
set_option maxRecDepth 20000 in
theorem gX6_placeOf_X6_fails : GoodIn wsX6_placeOf (wsV RX6 45 RX6 yX6_fails wsX6_fails) := goodIn_app (goodIn_of _ (by decide +kernel)) ggX6_placeOf_X6_fails
theorem dX6_placeOf_10 : decode cX6_placeOf 10 = .ok (.invokevirtual 45, 3) := by decide +kernel
theorem dX6_placeOf_13 : decode cX6_placeOf 13 = .ok (.ireturn, 1) := by decide +kernel
theorem dX6_waited_0 : decode cX6_waited 0 = .ok (.aload_n 0, 1) := by decide +kernel
theorem dX6_waited_1 : decode cX6_waited 1 = .ok (.iload_n 1, 1) := by decide +kernel
set_option maxRecDepth 20000 in
theorem ggX6_waited_X6_isPerson : GoodIn wsX6_waited wsX6_isPerson := goodIn_r _ [7, 1, 8, 9, 10, 11, 12, 13, 14, 15, 6, 16, 43, 44, 45, 46, 47, 48, 49, 50, 51, 52, 53, 54, 63, 64, 65] (by decide +kernel) (by decide +kernel)
set_option maxRecDepth 20000 in
theorem gX6_waited_X6_isPerson : GoodIn wsX6_waited (wsV RX6 129 RX6 yX6_isPerson wsX6_isPerson) := goodIn_app (goodIn_of _ (by decide +kernel)) ggX6_waited_X6_isPerson
theorem dX6_waited_2 : decode cX6_waited 2 = .ok (.invokevirtual 129, 3) := by decide +kernel
theorem dX6_waited_5 : decode cX6_waited 5 = .ok (.ifCond .eq 24, 3) := by decide +kernel
theorem dX6_waited_29 : decode cX6_waited 29 = .ok (.aload_n 0, 1) := by decide +kernel
theorem dX6_waited_30 : decode cX6_waited 30 = .ok (.iconst 1, 1) := by decide +kernel
set_option maxRecDepth 20000 in
theorem ggX6_waited_X6_fails : GoodIn wsX6_waited wsX6_fails := goodIn_r _ [42, 38, 43, 44, 45, 46, 47, 48, 49, 50, 51, 52, 53, 54] (by decide +kernel) (by decide +kernel)
set_option maxRecDepth 20000 in
theorem gX6_waited_X6_fails : GoodIn wsX6_waited (wsV RX6 45 RX6 yX6_fails wsX6_fails) := goodIn_app (goodIn_of _ (by decide +kernel)) ggX6_waited_X6_fails
theorem dX6_waited_31 : decode cX6_waited 31 = .ok (.invokevirtual 45, 3) := by decide +kernel
theorem dX6_waited_34 : decode cX6_waited 34 = .ok (.ireturn, 1) := by decide +kernel
set_option maxHeartbeats 4000000 in
set_option maxRecDepth 100000 in
theorem c_X6_setTop (l : Launch) (hst : l.stackTraces = false) (em kw kb : Nat) (D : va_G) (mm : Nat) (p0 : Int32) (c2 : Nat) (ps2 : Nat) (pr : Nat) (l2 : Nat) (sz : Nat) : Met l yX6_setTop wsX6_setTop ({ frames := 1, cells := 0, slots := 0, locals := 22 }) (va_Pc [.ref mm, .int p0] (tw_Pre em kw kb D sz [(mm, .inr (10, [.int 0, .int 9, .int 0, .int 99, .ref c2, .ref ps2, .ref pr, .int 0, .int 0, .int ((-1)), .ref l2, .long 0])), (c2, .inr (3, [.int 0, .ref em, .int 0])), (ps2, .inr (3, [.int 0, .ref em, .int 0]))] [])) (va_Qi (fun (r : Int32) (u : tw_U) => ((((p0 < 4) ∨ (¬ p0 < 4 ∧ 23 < p0))) ∧ r = 0 ∧ u = ([(mm, .inr (10, [.int 1, .int 9, .int 0, .int 99, .ref c2, .ref ps2, .ref pr, .int 0, .int 0, .int ((-1)), .ref l2, .long 0]))], [])) ∨ (((¬ p0 < 4 ∧ ¬ 23 < p0)) ∧ r = 9 ∧ u = ([(mm, .inr (10, [.int 0, .int p0, .int 0, .int 99, .ref c2, .ref ps2, .ref pr, .int 0, .int 0, .int ((-1)), .ref l2, .long 0]))], []))) (tw_B D (va_A [(mm, .inr (10, [.int 0, .int 9, .int 0, .int 99, .ref c2, .ref ps2, .ref pr, .int 0, .int 0, .int ((-1)), .ref l2, .long 0])), (c2, .inr (3, [.int 0, .ref em, .int 0])), (ps2, .inr (3, [.int 0, .ref em, .int 0]))] sz)) (va_A [(mm, .inr (10, [.int 0, .int 9, .int 0, .int 99, .ref c2, .ref ps2, .ref pr, .int 0, .int 0, .int ((-1)), .ref l2, .long 0])), (c2, .inr (3, [.int 0, .ref em, .int 0])), (ps2, .inr (3, [.int 0, .ref em, .int 0]))] sz)) 0 0 (va_A [(mm, .inr (10, [.int 0, .int 9, .int 0, .int 99, .ref c2, .ref ps2, .ref pr, .int 0, .int 0, .int ((-1)), .ref l2, .long 0])), (c2, .inr (3, [.int 0, .ref em, .int 0])), (ps2, .inr (3, [.int 0, .ref em, .int 0]))] sz) := by
  refine Met.ofW (cc := cX6_setTop) (maxL := 3) (ret := (some .int)) (by decide) rfl ?_
  intro p e s m args below meth c s₁ B hml hv
  obtain ⟨rfl, hsz, hP, hK, hD0, hF⟩ := hv
  have hx := B.exec
  have hb := B.bytes
  have hr := B.returns
  have hts := atoms_spec (ws := wsX6_setTop) B.pre
  have hown : s.vm.findClass RX6 = some m.cls := findClass_of_methodNamed B.named
  have hlocks := B.notSynchronized
  have hiRX6 : ∀ w ∈ u_ws RX6 TX6 12, w ∈ wsX6_setTop := by decide +kernel
  subst hsz
  have hD := hD0.self (sz := s.heap.size)
  generalize hAe : va_A [(mm, .inr (10, [.int 0, .int 9, .int 0, .int 99, .ref c2, .ref ps2, .ref pr, .int 0, .int 0, .int ((-1)), .ref l2, .long 0])), (c2, .inr (3, [.int 0, .ref em, .int 0])), (ps2, .inr (3, [.int 0, .ref em, .int 0]))] s.heap.size = A at hD hF ⊢
  have hA : ∀ q : Nat, s.heap.size ≤ q → A q := fun q h => by rw [← hAe]; exact Or.inr h
  have hS : va_S A s.heap s.heap [] := va_S.rf
  have hP : va_P D vwCl [(mm, .inr (10, [.int 0, .int 9, .int 0, .int 99, .ref c2, .ref ps2, .ref pr, .int 0, .int 0, .int ((-1)), .ref l2, .long 0])), (c2, .inr (3, [.int 0, .ref em, .int 0])), (ps2, .inr (3, [.int 0, .ref em, .int 0]))] s.heap := hP
  have hl := lv_entry ([.ref mm, .int p0]) (n := 3) (Nat.le_of_ble_eq_true rfl)
  rw [lg_entry_eq]
  generalize (lg_sl ([.ref mm, .int p0]) ++ List.replicate (3 - (lg_sl ([.ref mm, .int p0])).length) Slot.unset).toArray = ls at hl ⊢
  have hl : lv_has ls 3 [(0, .ref mm), (1, .int p0)] := hl
  refine lv_iload_n hx hb dX6_setTop_0 rfl (lv_at hl 1 rfl) ?_
  refine lv_iconst (v := 4) hx hb dX6_setTop_1 (by decide) ?_
  refine lv_bipush (v := 23) hx hb dX6_setTop_2 (by decide) ?_
  have hPc := hP.sub (ws' := []) [] rfl
  have hDc := hD.sub (ws' := []) [] (by decide) rfl
  have hKc := hK.sub (tys' := []) [] rfl
  have hFc := va_free (wc := []) hD hS hA [] rfl
  refine va_calli (va_runS (As := [.int p0, .int 4, .int 23]) (rest := []) ⟨hx, hb, hml, hown, hts⟩ (c_X6_in l hst em kw kb D p0 4 23 _) (va_cwS 3 hts gX6_setTop_X6_in rfl rfl rfl (by decide +kernel) ⟨(Nat.le_of_ble_eq_true rfl), (Nat.le_of_ble_eq_true rfl)⟩) (tw_preS hF hS hFc hPc hKc hDc) rfl rfl hl.1 rfl (lv_room (Nat.le_of_ble_eq_true rfl)) dX6_setTop_4 ⟨(Nat.le_of_ble_eq_true rfl), (Nat.le_of_ble_eq_true rfl)⟩) hS (fun q _ h => hFc q h) hFc (fun r u t H locs ht hvm hw hB hz1 hk1 hS => ?_)
  rcases hw with hw | hw
  · obtain ⟨g_1, rfl, rfl⟩ := hw
    obtain ⟨hP, hD, hK⟩ := tw_join (wr := [(mm, .inr (10, [.int 0, .int 9, .int 0, .int 99, .ref c2, .ref ps2, .ref pr, .int 0, .int 0, .int ((-1)), .ref l2, .long 0])), (c2, .inr (3, [.int 0, .ref em, .int 0])), (ps2, .inr (3, [.int 0, .ref em, .int 0]))]) hP hD hK [] [0, 1, 2] rfl rfl (by decide) (by decide) hk1 hFc ht hvm hB
    have hP : va_P D vwCl [(mm, .inr (10, [.int 0, .int 9, .int 0, .int 99, .ref c2, .ref ps2, .ref pr, .int 0, .int 0, .int ((-1)), .ref l2, .long 0])), (c2, .inr (3, [.int 0, .ref em, .int 0])), (ps2, .inr (3, [.int 0, .ref em, .int 0]))] _ := hP
    have hD : va_D A [(mm, .inr (10, [.int 0, .int 9, .int 0, .int 99, .ref c2, .ref ps2, .ref pr, .int 0, .int 0, .int ((-1)), .ref l2, .long 0])), (c2, .inr (3, [.int 0, .ref em, .int 0])), (ps2, .inr (3, [.int 0, .ref em, .int 0]))] := hD
    have hK : va_K D vwCl [] s := hK
    refine W.widen (k := 0) (n := 0) (Nat.le_refl _) (Nat.le_refl _) ?_
    refine W.eq (g2 := F0 m 7 ls [.int 0]) rfl ?_
    refine lv_if_ne (tgt := 16) hx hb dX6_setTop_7 (by decide) (fun c9 => absurd c9 (by decide)) (fun c9 => ?_)
    refine lv_aload_n hx hb dX6_setTop_10 rfl (lv_at hl 0 rfl) ?_
    refine lv_iconst (v := 1) hx hb dX6_setTop_11 (by decide) ?_
    have hPc := hP.sub (ws' := [(mm, .inr (10, [.int 0, .int 9, .int 0, .int 99, .ref c2, .ref ps2, .ref pr, .int 0, .int 0, .int ((-1)), .ref l2, .long 0]))]) [0] rfl
    have hDc := hD.sub (ws' := [(mm, .inr (10, [.int 0, .int 9, .int 0, .int 99, .ref c2, .ref ps2, .ref pr, .int 0, .int 0, .int ((-1)), .ref l2, .long 0]))]) [0] (by decide) rfl
    have hKc := hK.sub (tys' := []) [] rfl
    have hFc := va_free (wc := [(mm, .inr (10, [.int 0, .int 9, .int 0, .int 99, .ref c2, .ref ps2, .ref pr, .int 0, .int 0, .int ((-1)), .ref l2, .long 0]))]) hD hS hA [0] rfl
    refine va_calli (va_runV (As := [.int 1]) (rest := []) ⟨hx, hb, hml, hown, hts⟩ (c_X6_fails l hst em kw kb D mm 1 0 9 0 99 c2 ps2 pr 0 0 ((-1)) l2 0 _) (cwV 1 hts gX6_setTop_X6_fails rfl rfl rfl (by decide +kernel) ⟨(Nat.le_of_ble_eq_true rfl), (Nat.le_of_ble_eq_true rfl)⟩) (tw_preV hF hS hFc hPc hKc hDc (va_recv hKc hPc (ci := 10) (q0 := 0) rfl rfl)) rfl rfl hl.1 rfl (lv_room (Nat.le_of_ble_eq_true rfl)) dX6_setTop_12 ⟨(Nat.le_of_ble_eq_true rfl), (Nat.le_of_ble_eq_true rfl)⟩) hS (fun q _ h => hFc q h) hFc (fun r u t H locs ht hvm hw hB hz1 hk1 hS => ?_)
    obtain ⟨rfl, rfl⟩ := hw
    obtain ⟨hP, hD, hK⟩ := tw_join (wr := [(c2, .inr (3, [.int 0, .ref em, .int 0])), (ps2, .inr (3, [.int 0, .ref em, .int 0]))]) hP hD hK [0] [1, 2] rfl rfl (by decide) (by decide) hk1 hFc ht hvm hB
    have hP : va_P D vwCl [(c2, .inr (3, [.int 0, .ref em, .int 0])), (ps2, .inr (3, [.int 0, .ref em, .int 0])), (mm, .inr (10, [.int 1, .int 9, .int 0, .int 99, .ref c2, .ref ps2, .ref pr, .int 0, .int 0, .int ((-1)), .ref l2, .long 0]))] _ := hP
    have hD : va_D A [(c2, .inr (3, [.int 0, .ref em, .int 0])), (ps2, .inr (3, [.int 0, .ref em, .int 0])), (mm, .inr (10, [.int 1, .int 9, .int 0, .int 99, .ref c2, .ref ps2, .ref pr, .int 0, .int 0, .int ((-1)), .ref l2, .long 0]))] := hD
    have hK : va_K D vwCl [] s := hK
    refine W.widen (k := 0) (n := 0) (Nat.le_refl _) (Nat.le_refl _) ?_
    refine W.eq (g2 := F0 m 15 ls [.int 0]) rfl ?_
    refine W.widen (k := 0) (n := 0) (Nat.le_of_ble_eq_true rfl) (Nat.le_of_ble_eq_true rfl) ?_
    have hP9 := hP.sub (ws' := [(mm, .inr (10, [.int 1, .int 9, .int 0, .int 99, .ref c2, .ref ps2, .ref pr, .int 0, .int 0, .int ((-1)), .ref l2, .long 0]))]) [2] rfl
    have hD9 := hD.sub (ws' := [(mm, .inr (10, [.int 1, .int 9, .int 0, .int 99, .ref c2, .ref ps2, .ref pr, .int 0, .int 0, .int ((-1)), .ref l2, .long 0]))]) [2] (by decide) rfl
    have hK9 := hK.sub (tys' := []) [] rfl
    exact W.iret (v := 0) hx hb hr (fun t ht hW => ⟨⟨0, ([(mm, .inr (10, [.int 1, .int 9, .int 0, .int 99, .ref c2, .ref ps2, .ref pr, .int 0, .int 0, .int ((-1)), .ref l2, .long 0]))], []), rfl, (Or.inl ⟨g_1, rfl, rfl⟩), by rw [ht]; exact hP9, va_K.moved hW.alike hK9, hD9⟩, hS.F ht⟩) hS.2.2 dX6_setTop_15
  · obtain ⟨g_2, rfl, rfl⟩ := hw
    obtain ⟨hP, hD, hK⟩ := tw_join (wr := [(mm, .inr (10, [.int 0, .int 9, .int 0, .int 99, .ref c2, .ref ps2, .ref pr, .int 0, .int 0, .int ((-1)), .ref l2, .long 0])), (c2, .inr (3, [.int 0, .ref em, .int 0])), (ps2, .inr (3, [.int 0, .ref em, .int 0]))]) hP hD hK [] [0, 1, 2] rfl rfl (by decide) (by decide) hk1 hFc ht hvm hB
    have hP : va_P D vwCl [(mm, .inr (10, [.int 0, .int 9, .int 0, .int 99, .ref c2, .ref ps2, .ref pr, .int 0, .int 0, .int ((-1)), .ref l2, .long 0])), (c2, .inr (3, [.int 0, .ref em, .int 0])), (ps2, .inr (3, [.int 0, .ref em, .int 0]))] _ := hP
    have hD : va_D A [(mm, .inr (10, [.int 0, .int 9, .int 0, .int 99, .ref c2, .ref ps2, .ref pr, .int 0, .int 0, .int ((-1)), .ref l2, .long 0])), (c2, .inr (3, [.int 0, .ref em, .int 0])), (ps2, .inr (3, [.int 0, .ref em, .int 0]))] := hD
    have hK : va_K D vwCl [] s := hK
    refine W.widen (k := 0) (n := 0) (Nat.le_refl _) (Nat.le_refl _) ?_
    refine W.eq (g2 := F0 m 7 ls [.int 1]) rfl ?_
    refine lv_if_ne (tgt := 16) hx hb dX6_setTop_7 (by decide) (fun c9 => ?_) (fun c9 => absurd c9 (by decide))
    refine lv_aload_n hx hb dX6_setTop_16 rfl (lv_at hl 0 rfl) ?_
    refine va_get (D := D) (ci := 10) (v := .ref c2) (C := RX6) (T := TX6) (N := 12) hx hb hts hiRX6 hown hK hP 0 rfl rfl 4 (by decide) (hts (.fieldLink RX6 20 "TowerliftryModel" "cars" "Ljava/util/ArrayList;") (by decide +kernel)) (fun _ h9 => h9) rfl dX6_setTop_17 ?_
    have hPc := hP.sub (ws' := [(c2, .inr (3, [.int 0, .ref em, .int 0]))]) [1] rfl
    have hDc := hD.sub (ws' := [(c2, .inr (3, [.int 0, .ref em, .int 0]))]) [1] (by decide) rfl
    have hKc := hK.sub (tys' := []) [] rfl
    have hFc := va_free (wc := [(c2, .inr (3, [.int 0, .ref em, .int 0]))]) hD hS hA [1] rfl
    refine va_calli (va_runV (As := []) (rest := []) ⟨hx, hb, hml, hown, hts⟩ (c_Jx4a65c_isEmpty_aae02 l hst em kw kb D c2 em _) (cwV 0 hts gX6_setTop_Jx4a65c_isEmpty_aae02 rfl rfl rfl (by decide +kernel) ⟨(Nat.le_of_ble_eq_true rfl), (Nat.le_of_ble_eq_true rfl)⟩) (tw_preV hF hS hFc hPc hKc hDc (va_recv hKc hPc (ci := 3) (q0 := 0) rfl rfl)) rfl rfl hl.1 rfl (lv_room (Nat.le_of_ble_eq_true rfl)) dX6_setTop_20 ⟨(Nat.le_of_ble_eq_true rfl), (Nat.le_of_ble_eq_true rfl)⟩) hS (fun q _ h => hFc q h) hFc (fun r u t H locs ht hvm hw hB hz1 hk1 hS => ?_)
    obtain ⟨rfl, rfl⟩ := hw
    obtain ⟨hP, hD, hK⟩ := tw_join (wr := [(mm, .inr (10, [.int 0, .int 9, .int 0, .int 99, .ref c2, .ref ps2, .ref pr, .int 0, .int 0, .int ((-1)), .ref l2, .long 0])), (ps2, .inr (3, [.int 0, .ref em, .int 0]))]) hP hD hK [1] [0, 2] rfl rfl (by decide) (by decide) hk1 hFc ht hvm hB
    have hP : va_P D vwCl [(mm, .inr (10, [.int 0, .int 9, .int 0, .int 99, .ref c2, .ref ps2, .ref pr, .int 0, .int 0, .int ((-1)), .ref l2, .long 0])), (ps2, .inr (3, [.int 0, .ref em, .int 0])), (c2, .inr (3, [.int 0, .ref em, .int 0]))] _ := hP
    have hD : va_D A [(mm, .inr (10, [.int 0, .int 9, .int 0, .int 99, .ref c2, .ref ps2, .ref pr, .int 0, .int 0, .int ((-1)), .ref l2, .long 0])), (ps2, .inr (3, [.int 0, .ref em, .int 0])), (c2, .inr (3, [.int 0, .ref em, .int 0]))] := hD
    have hK : va_K D vwCl [] s := hK
    refine W.widen (k := 0) (n := 0) (Nat.le_refl _) (Nat.le_refl _) ?_
    refine W.eq (g2 := F0 m 23 ls [.int 1]) rfl ?_
    refine lv_if_eq (tgt := 36) hx hb dX6_setTop_23 (by decide) (fun c9 => absurd c9 (by decide)) (fun c9 => ?_)
    refine lv_aload_n hx hb dX6_setTop_26 rfl (lv_at hl 0 rfl) ?_
    refine va_get (D := D) (ci := 10) (v := .ref ps2) (C := RX6) (T := TX6) (N := 12) hx hb hts hiRX6 hown hK hP 0 rfl rfl 5 (by decide) (hts (.fieldLink RX6 24 "TowerliftryModel" "persons" "Ljava/util/ArrayList;") (by decide +kernel)) (fun _ h9 => h9) rfl dX6_setTop_27 ?_
    have hPc := hP.sub (ws' := [(ps2, .inr (3, [.int 0, .ref em, .int 0]))]) [1] rfl
    have hDc := hD.sub (ws' := [(ps2, .inr (3, [.int 0, .ref em, .int 0]))]) [1] (by decide) rfl
    have hKc := hK.sub (tys' := []) [] rfl
    have hFc := va_free (wc := [(ps2, .inr (3, [.int 0, .ref em, .int 0]))]) hD hS hA [1] rfl
    refine va_calli (va_runV (As := []) (rest := []) ⟨hx, hb, hml, hown, hts⟩ (c_Jx4a65c_isEmpty_aae02 l hst em kw kb D ps2 em _) (cwV 0 hts gX6_setTop_Jx4a65c_isEmpty_aae02 rfl rfl rfl (by decide +kernel) ⟨(Nat.le_of_ble_eq_true rfl), (Nat.le_of_ble_eq_true rfl)⟩) (tw_preV hF hS hFc hPc hKc hDc (va_recv hKc hPc (ci := 3) (q0 := 0) rfl rfl)) rfl rfl hl.1 rfl (lv_room (Nat.le_of_ble_eq_true rfl)) dX6_setTop_30 ⟨(Nat.le_of_ble_eq_true rfl), (Nat.le_of_ble_eq_true rfl)⟩) hS (fun q _ h => hFc q h) hFc (fun r u t H locs ht hvm hw hB hz1 hk1 hS => ?_)
    obtain ⟨rfl, rfl⟩ := hw
    obtain ⟨hP, hD, hK⟩ := tw_join (wr := [(mm, .inr (10, [.int 0, .int 9, .int 0, .int 99, .ref c2, .ref ps2, .ref pr, .int 0, .int 0, .int ((-1)), .ref l2, .long 0])), (c2, .inr (3, [.int 0, .ref em, .int 0]))]) hP hD hK [1] [0, 2] rfl rfl (by decide) (by decide) hk1 hFc ht hvm hB
    have hP : va_P D vwCl [(mm, .inr (10, [.int 0, .int 9, .int 0, .int 99, .ref c2, .ref ps2, .ref pr, .int 0, .int 0, .int ((-1)), .ref l2, .long 0])), (c2, .inr (3, [.int 0, .ref em, .int 0])), (ps2, .inr (3, [.int 0, .ref em, .int 0]))] _ := hP
    have hD : va_D A [(mm, .inr (10, [.int 0, .int 9, .int 0, .int 99, .ref c2, .ref ps2, .ref pr, .int 0, .int 0, .int ((-1)), .ref l2, .long 0])), (c2, .inr (3, [.int 0, .ref em, .int 0])), (ps2, .inr (3, [.int 0, .ref em, .int 0]))] := hD
    have hK : va_K D vwCl [] s := hK
    refine W.widen (k := 0) (n := 0) (Nat.le_refl _) (Nat.le_refl _) ?_
    refine W.eq (g2 := F0 m 33 ls [.int 1]) rfl ?_
    refine lv_if_ne (tgt := 42) hx hb dX6_setTop_33 (by decide) (fun c9 => ?_) (fun c9 => absurd c9 (by decide))
    refine lv_aload_n hx hb dX6_setTop_42 rfl (lv_at hl 0 rfl) ?_
    refine va_get (D := D) (ci := 10) (v := .int 9) (C := RX6) (T := TX6) (N := 12) hx hb hts hiRX6 hown hK hP 0 rfl rfl 1 (by decide) (hts (.fieldLink RX6 7 "TowerliftryModel" "top" "I") (by decide +kernel)) (fun _ h9 => h9) rfl dX6_setTop_43 ?_
    refine lv_istore_n (lv' := [(2, .int 9), (0, .ref mm), (1, .int p0)]) hx hb dX6_setTop_46 rfl hl (by decide) rfl (fun ls hl => ?_)
    refine lv_aload_n hx hb dX6_setTop_47 rfl (lv_at hl 1 rfl) ?_
    refine lv_iload_n hx hb dX6_setTop_48 rfl (lv_at hl 2 rfl) ?_
    refine va_put (D := D) (ci := 10) (v := .int p0) (ty := .int) (C := RX6) (T := TX6) (N := 12) hx hb hts hiRX6 tyX6 tyX6_ok nmX6 hown hK hP hD hS 0 rfl rfl 1 (by decide) (hts (.fieldLink RX6 7 "TowerliftryModel" "top" "I") (by decide +kernel)) (fun _ h9 => h9) rfl (by decide +kernel) rfl rfl (Nat.le_of_ble_eq_true rfl) dX6_setTop_49 (fun H locs hP hD hS => ?_)
    have hP : va_P D vwCl [(mm, .inr (10, [.int 0, .int p0, .int 0, .int 99, .ref c2, .ref ps2, .ref pr, .int 0, .int 0, .int ((-1)), .ref l2, .long 0])), (c2, .inr (3, [.int 0, .ref em, .int 0])), (ps2, .inr (3, [.int 0, .ref em, .int 0]))] _ := hP
    have hD : va_D A [(mm, .inr (10, [.int 0, .int p0, .int 0, .int 99, .ref c2, .ref ps2, .ref pr, .int 0, .int 0, .int ((-1)), .ref l2, .long 0])), (c2, .inr (3, [.int 0, .ref em, .int 0])), (ps2, .inr (3, [.int 0, .ref em, .int 0]))] := hD
    refine lv_aload_n hx hb dX6_setTop_52 rfl (lv_at hl 1 rfl) ?_
    refine lv_iload_n hx hb dX6_setTop_53 rfl (lv_at hl 0 rfl) ?_
    have hPc := hP.sub (ws' := [(mm, .inr (10, [.int 0, .int p0, .int 0, .int 99, .ref c2, .ref ps2, .ref pr, .int 0, .int 0, .int ((-1)), .ref l2, .long 0]))]) [0] rfl
    have hDc := hD.sub (ws' := [(mm, .inr (10, [.int 0, .int p0, .int 0, .int 99, .ref c2, .ref ps2, .ref pr, .int 0, .int 0, .int ((-1)), .ref l2, .long 0]))]) [0] (by decide) rfl
    have hKc := hK.sub (tys' := []) [] rfl
    have hFc := va_free (wc := [(mm, .inr (10, [.int 0, .int p0, .int 0, .int 99, .ref c2, .ref ps2, .ref pr, .int 0, .int 0, .int ((-1)), .ref l2, .long 0]))]) hD hS hA [0] rfl
    refine va_calli (va_runV (As := [.int 9]) (rest := []) ⟨hx, hb, hml, hown, hts⟩ (c_X6_tells l hst em kw kb D mm 9 0 p0 0 99 c2 ps2 pr 0 0 ((-1)) l2 0 _) (cwV 1 hts gX6_setTop_X6_tells rfl rfl rfl (by decide +kernel) ⟨(Nat.le_of_ble_eq_true rfl), (Nat.le_of_ble_eq_true rfl)⟩) (tw_preV hF hS hFc hPc hKc hDc (va_recv hKc hPc (ci := 10) (q0 := 0) rfl rfl)) rfl rfl hl.1 rfl (lv_room (Nat.le_of_ble_eq_true rfl)) dX6_setTop_54 ⟨(Nat.le_of_ble_eq_true rfl), (Nat.le_of_ble_eq_true rfl)⟩) hS (fun q _ h => hFc q h) hFc (fun r u t H locs ht hvm hw hB hz1 hk1 hS => ?_)
    obtain ⟨rfl, rfl⟩ := hw
    obtain ⟨hP, hD, hK⟩ := tw_join (wr := [(c2, .inr (3, [.int 0, .ref em, .int 0])), (ps2, .inr (3, [.int 0, .ref em, .int 0]))]) hP hD hK [0] [1, 2] rfl rfl (by decide) (by decide) hk1 hFc ht hvm hB
    have hP : va_P D vwCl [(c2, .inr (3, [.int 0, .ref em, .int 0])), (ps2, .inr (3, [.int 0, .ref em, .int 0])), (mm, .inr (10, [.int 0, .int p0, .int 0, .int 99, .ref c2, .ref ps2, .ref pr, .int 0, .int 0, .int ((-1)), .ref l2, .long 0]))] _ := hP
    have hD : va_D A [(c2, .inr (3, [.int 0, .ref em, .int 0])), (ps2, .inr (3, [.int 0, .ref em, .int 0])), (mm, .inr (10, [.int 0, .int p0, .int 0, .int 99, .ref c2, .ref ps2, .ref pr, .int 0, .int 0, .int ((-1)), .ref l2, .long 0]))] := hD
    have hK : va_K D vwCl [] s := hK
    refine W.widen (k := 0) (n := 0) (Nat.le_refl _) (Nat.le_refl _) ?_
    refine W.eq (g2 := F0 m 57 ls [.int 9]) rfl ?_
    refine W.widen (k := 0) (n := 0) (Nat.le_of_ble_eq_true rfl) (Nat.le_of_ble_eq_true rfl) ?_
    have hP9 := hP.sub (ws' := [(mm, .inr (10, [.int 0, .int p0, .int 0, .int 99, .ref c2, .ref ps2, .ref pr, .int 0, .int 0, .int ((-1)), .ref l2, .long 0]))]) [2] rfl
    have hD9 := hD.sub (ws' := [(mm, .inr (10, [.int 0, .int p0, .int 0, .int 99, .ref c2, .ref ps2, .ref pr, .int 0, .int 0, .int ((-1)), .ref l2, .long 0]))]) [2] (by decide) rfl
    have hK9 := hK.sub (tys' := []) [] rfl
    exact W.iret (v := 9) hx hb hr (fun t ht hW => ⟨⟨9, ([(mm, .inr (10, [.int 0, .int p0, .int 0, .int 99, .ref c2, .ref ps2, .ref pr, .int 0, .int 0, .int ((-1)), .ref l2, .long 0]))], []), rfl, (Or.inr (⟨g_2, rfl, rfl⟩)), by rw [ht]; exact hP9, va_K.moved hW.alike hK9, hD9⟩, hS.F ht⟩) hS.2.2 dX6_setTop_57
set_option maxHeartbeats 4000000 in
set_option maxRecDepth 100000 in
theorem c_X6_car (l : Launch) (hst : l.stackTraces = false) (em kw kb : Nat) (D : va_G) (mm : Nat) (p0 : Int32) (p1 : Int32) (p2 : Int32) (c2 : Nat) (ps2 : Nat) (pr : Nat) (l2 : Nat) (sz : Nat) : Met l yX6_car wsX6_car ({ frames := 5, cells := 3, slots := 28, locals := 101 }) (va_Pc [.ref mm, .int p0, .int p1, .int p2] (tw_Pre em kw kb D sz [(mm, .inr (10, [.int 0, .int 9, .int 0, .int 99, .ref c2, .ref ps2, .ref pr, .int 0, .int 0, .int ((-1)), .ref l2, .long 0])), (c2, .inr (3, [.int 0, .ref em, .int 0]))] [])) (va_Qi (fun (r : Int32) (u : tw_U) => (((((p0 < 0) ∨ (¬ p0 < 0 ∧ 2 < p0))) ∨ ((¬ p0 < 0 ∧ ¬ 2 < p0) ∧ ((p2 < 0) ∨ (¬ p2 < 0 ∧ 9 < p2))) ∨ ((¬ p0 < 0 ∧ ¬ 2 < p0) ∧ (¬ p2 < 0 ∧ ¬ 9 < p2) ∧ ((p1 < 200) ∨ (¬ p1 < 200 ∧ 2000 < p1))) ∨ ((¬ p0 < 0 ∧ ¬ 2 < p0) ∧ (¬ p2 < 0 ∧ ¬ 9 < p2) ∧ (¬ p1 < 200 ∧ ¬ 2000 < p1) ∧ (p1 - p1 / (2 : Int32) * (2 : Int32)) = 1)) ∧ r = 0 ∧ u = ([(mm, .inr (10, [.int 1, .int 9, .int 0, .int 99, .ref c2, .ref ps2, .ref pr, .int 0, .int 0, .int ((-1)), .ref l2, .long 0]))], [])) ∨ (((¬ p0 < 0 ∧ ¬ 2 < p0) ∧ (¬ p2 < 0 ∧ ¬ 9 < p2) ∧ (¬ p1 < 200 ∧ ¬ 2000 < p1) ∧ ¬ (p1 - p1 / (2 : Int32) * (2 : Int32)) = 1) ∧ r = 0 ∧ u = ([(mm, .inr (10, [.int 0, .int 9, .int 0, .int 99, .ref c2, .ref ps2, .ref pr, .int 0, .int 0, .int ((-1)), .ref l2, .long 0]))], []))) (tw_B D (va_A [(mm, .inr (10, [.int 0, .int 9, .int 0, .int 99, .ref c2, .ref ps2, .ref pr, .int 0, .int 0, .int ((-1)), .ref l2, .long 0])), (c2, .inr (3, [.int 0, .ref em, .int 0]))] sz)) (va_A [(mm, .inr (10, [.int 0, .int 9, .int 0, .int 99, .ref c2, .ref ps2, .ref pr, .int 0, .int 0, .int ((-1)), .ref l2, .long 0])), (c2, .inr (3, [.int 0, .ref em, .int 0]))] sz)) 3 28 (va_A [(mm, .inr (10, [.int 0, .int 9, .int 0, .int 99, .ref c2, .ref ps2, .ref pr, .int 0, .int 0, .int ((-1)), .ref l2, .long 0])), (c2, .inr (3, [.int 0, .ref em, .int 0]))] sz) := by
  refine Met.ofW (cc := cX6_car) (maxL := 8) (ret := (some .int)) (by decide) rfl ?_
  intro p e s m args below meth c s₁ B hml hv
  obtain ⟨rfl, hsz, hP, hK, hD0, hF⟩ := hv
  have hx := B.exec
  have hb := B.bytes
  have hr := B.returns
  have hts := atoms_spec (ws := wsX6_car) B.pre
  have hown : s.vm.findClass RX6 = some m.cls := findClass_of_methodNamed B.named
  have hlocks := B.notSynchronized
  have hiRX6 : ∀ w ∈ u_ws RX6 TX6 12, w ∈ wsX6_car := by decide +kernel
  have hiRX4 : ∀ w ∈ u_ws RX4 TX4 14, w ∈ wsX6_car := by decide +kernel
  subst hsz
  have hD := hD0.self (sz := s.heap.size)
  generalize hAe : va_A [(mm, .inr (10, [.int 0, .int 9, .int 0, .int 99, .ref c2, .ref ps2, .ref pr, .int 0, .int 0, .int ((-1)), .ref l2, .long 0])), (c2, .inr (3, [.int 0, .ref em, .int 0]))] s.heap.size = A at hD hF ⊢
  have hA : ∀ q : Nat, s.heap.size ≤ q → A q := fun q h => by rw [← hAe]; exact Or.inr h
  have hS : va_S A s.heap s.heap [] := va_S.rf
  have hP : va_P D vwCl [(mm, .inr (10, [.int 0, .int 9, .int 0, .int 99, .ref c2, .ref ps2, .ref pr, .int 0, .int 0, .int ((-1)), .ref l2, .long 0])), (c2, .inr (3, [.int 0, .ref em, .int 0]))] s.heap := hP
  have hl := lv_entry ([.ref mm, .int p0, .int p1, .int p2]) (n := 8) (Nat.le_of_ble_eq_true rfl)
  rw [lg_entry_eq]
  generalize (lg_sl ([.ref mm, .int p0, .int p1, .int p2]) ++ List.replicate (8 - (lg_sl ([.ref mm, .int p0, .int p1, .int p2])).length) Slot.unset).toArray = ls at hl ⊢
  have hl : lv_has ls 8 [(0, .ref mm), (1, .int p0), (2, .int p1), (3, .int p2)] := hl
  refine lv_iload_n hx hb dX6_car_0 rfl (lv_at hl 1 rfl) ?_
  refine lv_iconst (v := 0) hx hb dX6_car_1 (by decide) ?_
  refine lv_iconst (v := 2) hx hb dX6_car_2 (by decide) ?_
  have hPc := hP.sub (ws' := []) [] rfl
  have hDc := hD.sub (ws' := []) [] (by decide) rfl
  have hKc := hK.sub (tys' := []) [] rfl
  have hFc := va_free (wc := []) hD hS hA [] rfl
  refine va_calli (va_runS (As := [.int p0, .int 0, .int 2]) (rest := []) ⟨hx, hb, hml, hown, hts⟩ (c_X6_in l hst em kw kb D p0 0 2 _) (va_cwS 3 hts gX6_car_X6_in rfl rfl rfl (by decide +kernel) ⟨(Nat.le_of_ble_eq_true rfl), (Nat.le_of_ble_eq_true rfl)⟩) (tw_preS hF hS hFc hPc hKc hDc) rfl rfl hl.1 rfl (lv_room (Nat.le_of_ble_eq_true rfl)) dX6_car_3 ⟨(Nat.le_of_ble_eq_true rfl), (Nat.le_of_ble_eq_true rfl)⟩) hS (fun q _ h => hFc q h) hFc (fun r u t H locs ht hvm hw hB hz1 hk1 hS => ?_)
  rcases hw with hw | hw
  · obtain ⟨g_1, rfl, rfl⟩ := hw
    obtain ⟨hP, hD, hK⟩ := tw_join (wr := [(mm, .inr (10, [.int 0, .int 9, .int 0, .int 99, .ref c2, .ref ps2, .ref pr, .int 0, .int 0, .int ((-1)), .ref l2, .long 0])), (c2, .inr (3, [.int 0, .ref em, .int 0]))]) hP hD hK [] [0, 1] rfl rfl (by decide) (by decide) hk1 hFc ht hvm hB
    have hP : va_P D vwCl [(mm, .inr (10, [.int 0, .int 9, .int 0, .int 99, .ref c2, .ref ps2, .ref pr, .int 0, .int 0, .int ((-1)), .ref l2, .long 0])), (c2, .inr (3, [.int 0, .ref em, .int 0]))] _ := hP
    have hD : va_D A [(mm, .inr (10, [.int 0, .int 9, .int 0, .int 99, .ref c2, .ref ps2, .ref pr, .int 0, .int 0, .int ((-1)), .ref l2, .long 0])), (c2, .inr (3, [.int 0, .ref em, .int 0]))] := hD
    have hK : va_K D vwCl [] s := hK
    refine W.widen (k := 0) (n := 0) (Nat.le_refl _) (Nat.le_refl _) ?_
    refine W.eq (g2 := F0 m 6 ls [.int 0]) rfl ?_
    refine lv_if_eq (tgt := 37) hx hb dX6_car_6 (by decide) (fun c9 => ?_) (fun c9 => absurd c9 (by decide))
    refine lv_aload_n hx hb dX6_car_37 rfl (lv_at hl 0 rfl) ?_
    refine lv_iconst (v := 1) hx hb dX6_car_38 (by decide) ?_
    have hPc := hP.sub (ws' := [(mm, .inr (10, [.int 0, .int 9, .int 0, .int 99, .ref c2, .ref ps2, .ref pr, .int 0, .int 0, .int ((-1)), .ref l2, .long 0]))]) [0] rfl
    have hDc := hD.sub (ws' := [(mm, .inr (10, [.int 0, .int 9, .int 0, .int 99, .ref c2, .ref ps2, .ref pr, .int 0, .int 0, .int ((-1)), .ref l2, .long 0]))]) [0] (by decide) rfl
    have hKc := hK.sub (tys' := []) [] rfl
    have hFc := va_free (wc := [(mm, .inr (10, [.int 0, .int 9, .int 0, .int 99, .ref c2, .ref ps2, .ref pr, .int 0, .int 0, .int ((-1)), .ref l2, .long 0]))]) hD hS hA [0] rfl
    refine va_calli (va_runV (As := [.int 1]) (rest := []) ⟨hx, hb, hml, hown, hts⟩ (c_X6_fails l hst em kw kb D mm 1 0 9 0 99 c2 ps2 pr 0 0 ((-1)) l2 0 _) (cwV 1 hts gX6_car_X6_fails rfl rfl rfl (by decide +kernel) ⟨(Nat.le_of_ble_eq_true rfl), (Nat.le_of_ble_eq_true rfl)⟩) (tw_preV hF hS hFc hPc hKc hDc (va_recv hKc hPc (ci := 10) (q0 := 0) rfl rfl)) rfl rfl hl.1 rfl (lv_room (Nat.le_of_ble_eq_true rfl)) dX6_car_39 ⟨(Nat.le_of_ble_eq_true rfl), (Nat.le_of_ble_eq_true rfl)⟩) hS (fun q _ h => hFc q h) hFc (fun r u t H locs ht hvm hw hB hz1 hk1 hS => ?_)
    obtain ⟨rfl, rfl⟩ := hw
    obtain ⟨hP, hD, hK⟩ := tw_join (wr := [(c2, .inr (3, [.int 0, .ref em, .int 0]))]) hP hD hK [0] [1] rfl rfl (by decide) (by decide) hk1 hFc ht hvm hB
    have hP : va_P D vwCl [(c2, .inr (3, [.int 0, .ref em, .int 0])), (mm, .inr (10, [.int 1, .int 9, .int 0, .int 99, .ref c2, .ref ps2, .ref pr, .int 0, .int 0, .int ((-1)), .ref l2, .long 0]))] _ := hP
    have hD : va_D A [(c2, .inr (3, [.int 0, .ref em, .int 0])), (mm, .inr (10, [.int 1, .int 9, .int 0, .int 99, .ref c2, .ref ps2, .ref pr, .int 0, .int 0, .int ((-1)), .ref l2, .long 0]))] := hD
    have hK : va_K D vwCl [] s := hK
    refine W.widen (k := 0) (n := 0) (Nat.le_refl _) (Nat.le_refl _) ?_
    refine W.eq (g2 := F0 m 42 ls [.int 0]) rfl ?_
    refine W.widen (k := 3) (n := 28) (Nat.le_of_ble_eq_true rfl) (Nat.le_of_ble_eq_true rfl) ?_
    have hP9 := hP.sub (ws' := [(mm, .inr (10, [.int 1, .int 9, .int 0, .int 99, .ref c2, .ref ps2, .ref pr, .int 0, .int 0, .int ((-1)), .ref l2, .long 0]))]) [1] rfl
    have hD9 := hD.sub (ws' := [(mm, .inr (10, [.int 1, .int 9, .int 0, .int 99, .ref c2, .ref ps2, .ref pr, .int 0, .int 0, .int ((-1)), .ref l2, .long 0]))]) [1] (by decide) rfl
    have hK9 := hK.sub (tys' := []) [] rfl
    exact W.iret (v := 0) hx hb hr (fun t ht hW => ⟨⟨0, ([(mm, .inr (10, [.int 1, .int 9, .int 0, .int 99, .ref c2, .ref ps2, .ref pr, .int 0, .int 0, .int ((-1)), .ref l2, .long 0]))], []), rfl, (Or.inl ⟨(Or.inl g_1), rfl, rfl⟩), by rw [ht]; exact hP9, va_K.moved hW.alike hK9, hD9⟩, hS.F ht⟩) hS.2.2 dX6_car_42
  · obtain ⟨g_2, rfl, rfl⟩ := hw
    obtain ⟨hP, hD, hK⟩ := tw_join (wr := [(mm, .inr (10, [.int 0, .int 9, .int 0, .int 99, .ref c2, .ref ps2, .ref pr, .int 0, .int 0, .int ((-1)), .ref l2, .long 0])), (c2, .inr (3, [.int 0, .ref em, .int 0]))]) hP hD hK [] [0, 1] rfl rfl (by decide) (by decide) hk1 hFc ht hvm hB
    have hP : va_P D vwCl [(mm, .inr (10, [.int 0, .int 9, .int 0, .int 99, .ref c2, .ref ps2, .ref pr, .int 0, .int 0, .int ((-1)), .ref l2, .long 0])), (c2, .inr (3, [.int 0, .ref em, .int 0]))] _ := hP
    have hD : va_D A [(mm, .inr (10, [.int 0, .int 9, .int 0, .int 99, .ref c2, .ref ps2, .ref pr, .int 0, .int 0, .int ((-1)), .ref l2, .long 0])), (c2, .inr (3, [.int 0, .ref em, .int 0]))] := hD
    have hK : va_K D vwCl [] s := hK
    refine W.widen (k := 0) (n := 0) (Nat.le_refl _) (Nat.le_refl _) ?_
    refine W.eq (g2 := F0 m 6 ls [.int 1]) rfl ?_
    refine lv_if_eq (tgt := 37) hx hb dX6_car_6 (by decide) (fun c9 => absurd c9 (by decide)) (fun c9 => ?_)
    refine lv_aload_n hx hb dX6_car_9 rfl (lv_at hl 0 rfl) ?_
    refine lv_iload_n hx hb dX6_car_10 rfl (lv_at hl 3 rfl) ?_
    have hPc := hP.sub (ws' := [(mm, .inr (10, [.int 0, .int 9, .int 0, .int 99, .ref c2, .ref ps2, .ref pr, .int 0, .int 0, .int ((-1)), .ref l2, .long 0]))]) [0] rfl
    have hDc := hD.sub (ws' := [(mm, .inr (10, [.int 0, .int 9, .int 0, .int 99, .ref c2, .ref ps2, .ref pr, .int 0, .int 0, .int ((-1)), .ref l2, .long 0]))]) [0] (by decide) rfl
    have hKc := hK.sub (tys' := []) [] rfl
    have hFc := va_free (wc := [(mm, .inr (10, [.int 0, .int 9, .int 0, .int 99, .ref c2, .ref ps2, .ref pr, .int 0, .int 0, .int ((-1)), .ref l2, .long 0]))]) hD hS hA [0] rfl
    refine va_calli (va_runV (As := [.int p2]) (rest := []) ⟨hx, hb, hml, hown, hts⟩ (c_X6_isFloor l hst em kw kb D mm p2 c2 ps2 pr l2 _) (cwV 1 hts gX6_car_X6_isFloor rfl rfl rfl (by decide +kernel) ⟨(Nat.le_of_ble_eq_true rfl), (Nat.le_of_ble_eq_true rfl)⟩) (tw_preV hF hS hFc hPc hKc hDc (va_recv hKc hPc (ci := 10) (q0 := 0) rfl rfl)) rfl rfl hl.1 rfl (lv_room (Nat.le_of_ble_eq_true rfl)) dX6_car_11 ⟨(Nat.le_of_ble_eq_true rfl), (Nat.le_of_ble_eq_true rfl)⟩) hS (fun q _ h => hFc q h) hFc (fun r u t H locs ht hvm hw hB hz1 hk1 hS => ?_)
    rcases hw with hw | hw
    · obtain ⟨g_3, rfl, rfl⟩ := hw
      obtain ⟨hP, hD, hK⟩ := tw_join (wr := [(c2, .inr (3, [.int 0, .ref em, .int 0]))]) hP hD hK [0] [1] rfl rfl (by decide) (by decide) hk1 hFc ht hvm hB
      have hP : va_P D vwCl [(c2, .inr (3, [.int 0, .ref em, .int 0])), (mm, .inr (10, [.int 0, .int 9, .int 0, .int 99, .ref c2, .ref ps2, .ref pr, .int 0, .int 0, .int ((-1)), .ref l2, .long 0]))] _ := hP
      have hD : va_D A [(c2, .inr (3, [.int 0, .ref em, .int 0])), (mm, .inr (10, [.int 0, .int 9, .int 0, .int 99, .ref c2, .ref ps2, .ref pr, .int 0, .int 0, .int ((-1)), .ref l2, .long 0]))] := hD
      have hK : va_K D vwCl [] s := hK
      refine W.widen (k := 0) (n := 0) (Nat.le_refl _) (Nat.le_refl _) ?_
      refine W.eq (g2 := F0 m 14 ls [.int 0]) rfl ?_
      refine lv_if_eq (tgt := 37) hx hb dX6_car_14 (by decide) (fun c9 => ?_) (fun c9 => absurd c9 (by decide))
      refine lv_aload_n hx hb dX6_car_37 rfl (lv_at hl 0 rfl) ?_
      refine lv_iconst (v := 1) hx hb dX6_car_38 (by decide) ?_
      have hPc := hP.sub (ws' := [(mm, .inr (10, [.int 0, .int 9, .int 0, .int 99, .ref c2, .ref ps2, .ref pr, .int 0, .int 0, .int ((-1)), .ref l2, .long 0]))]) [1] rfl
      have hDc := hD.sub (ws' := [(mm, .inr (10, [.int 0, .int 9, .int 0, .int 99, .ref c2, .ref ps2, .ref pr, .int 0, .int 0, .int ((-1)), .ref l2, .long 0]))]) [1] (by decide) rfl
      have hKc := hK.sub (tys' := []) [] rfl
      have hFc := va_free (wc := [(mm, .inr (10, [.int 0, .int 9, .int 0, .int 99, .ref c2, .ref ps2, .ref pr, .int 0, .int 0, .int ((-1)), .ref l2, .long 0]))]) hD hS hA [1] rfl
      refine va_calli (va_runV (As := [.int 1]) (rest := []) ⟨hx, hb, hml, hown, hts⟩ (c_X6_fails l hst em kw kb D mm 1 0 9 0 99 c2 ps2 pr 0 0 ((-1)) l2 0 _) (cwV 1 hts gX6_car_X6_fails rfl rfl rfl (by decide +kernel) ⟨(Nat.le_of_ble_eq_true rfl), (Nat.le_of_ble_eq_true rfl)⟩) (tw_preV hF hS hFc hPc hKc hDc (va_recv hKc hPc (ci := 10) (q0 := 0) rfl rfl)) rfl rfl hl.1 rfl (lv_room (Nat.le_of_ble_eq_true rfl)) dX6_car_39 ⟨(Nat.le_of_ble_eq_true rfl), (Nat.le_of_ble_eq_true rfl)⟩) hS (fun q _ h => hFc q h) hFc (fun r u t H locs ht hvm hw hB hz1 hk1 hS => ?_)
      obtain ⟨rfl, rfl⟩ := hw
      obtain ⟨hP, hD, hK⟩ := tw_join (wr := [(c2, .inr (3, [.int 0, .ref em, .int 0]))]) hP hD hK [1] [0] rfl rfl (by decide) (by decide) hk1 hFc ht hvm hB
      have hP : va_P D vwCl [(c2, .inr (3, [.int 0, .ref em, .int 0])), (mm, .inr (10, [.int 1, .int 9, .int 0, .int 99, .ref c2, .ref ps2, .ref pr, .int 0, .int 0, .int ((-1)), .ref l2, .long 0]))] _ := hP
      have hD : va_D A [(c2, .inr (3, [.int 0, .ref em, .int 0])), (mm, .inr (10, [.int 1, .int 9, .int 0, .int 99, .ref c2, .ref ps2, .ref pr, .int 0, .int 0, .int ((-1)), .ref l2, .long 0]))] := hD
      have hK : va_K D vwCl [] s := hK
      refine W.widen (k := 0) (n := 0) (Nat.le_refl _) (Nat.le_refl _) ?_
      refine W.eq (g2 := F0 m 42 ls [.int 0]) rfl ?_
      refine W.widen (k := 3) (n := 28) (Nat.le_of_ble_eq_true rfl) (Nat.le_of_ble_eq_true rfl) ?_
      have hP9 := hP.sub (ws' := [(mm, .inr (10, [.int 1, .int 9, .int 0, .int 99, .ref c2, .ref ps2, .ref pr, .int 0, .int 0, .int ((-1)), .ref l2, .long 0]))]) [1] rfl
      have hD9 := hD.sub (ws' := [(mm, .inr (10, [.int 1, .int 9, .int 0, .int 99, .ref c2, .ref ps2, .ref pr, .int 0, .int 0, .int ((-1)), .ref l2, .long 0]))]) [1] (by decide) rfl
      have hK9 := hK.sub (tys' := []) [] rfl
      exact W.iret (v := 0) hx hb hr (fun t ht hW => ⟨⟨0, ([(mm, .inr (10, [.int 1, .int 9, .int 0, .int 99, .ref c2, .ref ps2, .ref pr, .int 0, .int 0, .int ((-1)), .ref l2, .long 0]))], []), rfl, (Or.inl ⟨(Or.inr (Or.inl ⟨g_2, g_3⟩)), rfl, rfl⟩), by rw [ht]; exact hP9, va_K.moved hW.alike hK9, hD9⟩, hS.F ht⟩) hS.2.2 dX6_car_42
    · obtain ⟨g_4, rfl, rfl⟩ := hw
      obtain ⟨hP, hD, hK⟩ := tw_join (wr := [(c2, .inr (3, [.int 0, .ref em, .int 0]))]) hP hD hK [0] [1] rfl rfl (by decide) (by decide) hk1 hFc ht hvm hB
      have hP : va_P D vwCl [(c2, .inr (3, [.int 0, .ref em, .int 0])), (mm, .inr (10, [.int 0, .int 9, .int 0, .int 99, .ref c2, .ref ps2, .ref pr, .int 0, .int 0, .int ((-1)), .ref l2, .long 0]))] _ := hP
      have hD : va_D A [(c2, .inr (3, [.int 0, .ref em, .int 0])), (mm, .inr (10, [.int 0, .int 9, .int 0, .int 99, .ref c2, .ref ps2, .ref pr, .int 0, .int 0, .int ((-1)), .ref l2, .long 0]))] := hD
      have hK : va_K D vwCl [] s := hK
      refine W.widen (k := 0) (n := 0) (Nat.le_refl _) (Nat.le_refl _) ?_
      refine W.eq (g2 := F0 m 14 ls [.int 1]) rfl ?_
      refine lv_if_eq (tgt := 37) hx hb dX6_car_14 (by decide) (fun c9 => absurd c9 (by decide)) (fun c9 => ?_)
      refine lv_iload_n hx hb dX6_car_17 rfl (lv_at hl 2 rfl) ?_
      refine lv_sipush (v := 200) hx hb dX6_car_18 (by decide) ?_
      refine lv_sipush (v := 2000) hx hb dX6_car_21 (by decide) ?_
      have hPc := hP.sub (ws' := []) [] rfl
      have hDc := hD.sub (ws' := []) [] (by decide) rfl
      have hKc := hK.sub (tys' := []) [] rfl
      have hFc := va_free (wc := []) hD hS hA [] rfl
      refine va_calli (va_runS (As := [.int p1, .int 200, .int 2000]) (rest := []) ⟨hx, hb, hml, hown, hts⟩ (c_X6_in l hst em kw kb D p1 200 2000 _) (va_cwS 3 hts gX6_car_X6_in rfl rfl rfl (by decide +kernel) ⟨(Nat.le_of_ble_eq_true rfl), (Nat.le_of_ble_eq_true rfl)⟩) (tw_preS hF hS hFc hPc hKc hDc) rfl rfl hl.1 rfl (lv_room (Nat.le_of_ble_eq_true rfl)) dX6_car_24 ⟨(Nat.le_of_ble_eq_true rfl), (Nat.le_of_ble_eq_true rfl)⟩) hS (fun q _ h => hFc q h) hFc (fun r u t H locs ht hvm hw hB hz1 hk1 hS => ?_)
      rcases hw with hw | hw
      · obtain ⟨g_5, rfl, rfl⟩ := hw
        obtain ⟨hP, hD, hK⟩ := tw_join (wr := [(c2, .inr (3, [.int 0, .ref em, .int 0])), (mm, .inr (10, [.int 0, .int 9, .int 0, .int 99, .ref c2, .ref ps2, .ref pr, .int 0, .int 0, .int ((-1)), .ref l2, .long 0]))]) hP hD hK [] [0, 1] rfl rfl (by decide) (by decide) hk1 hFc ht hvm hB
        have hP : va_P D vwCl [(c2, .inr (3, [.int 0, .ref em, .int 0])), (mm, .inr (10, [.int 0, .int 9, .int 0, .int 99, .ref c2, .ref ps2, .ref pr, .int 0, .int 0, .int ((-1)), .ref l2, .long 0]))] _ := hP
        have hD : va_D A [(c2, .inr (3, [.int 0, .ref em, .int 0])), (mm, .inr (10, [.int 0, .int 9, .int 0, .int 99, .ref c2, .ref ps2, .ref pr, .int 0, .int 0, .int ((-1)), .ref l2, .long 0]))] := hD
        have hK : va_K D vwCl [] s := hK
        refine W.widen (k := 0) (n := 0) (Nat.le_refl _) (Nat.le_refl _) ?_
        refine W.eq (g2 := F0 m 27 ls [.int 0]) rfl ?_
        refine lv_if_eq (tgt := 37) hx hb dX6_car_27 (by decide) (fun c9 => ?_) (fun c9 => absurd c9 (by decide))
        refine lv_aload_n hx hb dX6_car_37 rfl (lv_at hl 0 rfl) ?_
        refine lv_iconst (v := 1) hx hb dX6_car_38 (by decide) ?_
        have hPc := hP.sub (ws' := [(mm, .inr (10, [.int 0, .int 9, .int 0, .int 99, .ref c2, .ref ps2, .ref pr, .int 0, .int 0, .int ((-1)), .ref l2, .long 0]))]) [1] rfl
        have hDc := hD.sub (ws' := [(mm, .inr (10, [.int 0, .int 9, .int 0, .int 99, .ref c2, .ref ps2, .ref pr, .int 0, .int 0, .int ((-1)), .ref l2, .long 0]))]) [1] (by decide) rfl
        have hKc := hK.sub (tys' := []) [] rfl
        have hFc := va_free (wc := [(mm, .inr (10, [.int 0, .int 9, .int 0, .int 99, .ref c2, .ref ps2, .ref pr, .int 0, .int 0, .int ((-1)), .ref l2, .long 0]))]) hD hS hA [1] rfl
        refine va_calli (va_runV (As := [.int 1]) (rest := []) ⟨hx, hb, hml, hown, hts⟩ (c_X6_fails l hst em kw kb D mm 1 0 9 0 99 c2 ps2 pr 0 0 ((-1)) l2 0 _) (cwV 1 hts gX6_car_X6_fails rfl rfl rfl (by decide +kernel) ⟨(Nat.le_of_ble_eq_true rfl), (Nat.le_of_ble_eq_true rfl)⟩) (tw_preV hF hS hFc hPc hKc hDc (va_recv hKc hPc (ci := 10) (q0 := 0) rfl rfl)) rfl rfl hl.1 rfl (lv_room (Nat.le_of_ble_eq_true rfl)) dX6_car_39 ⟨(Nat.le_of_ble_eq_true rfl), (Nat.le_of_ble_eq_true rfl)⟩) hS (fun q _ h => hFc q h) hFc (fun r u t H locs ht hvm hw hB hz1 hk1 hS => ?_)
        obtain ⟨rfl, rfl⟩ := hw
        obtain ⟨hP, hD, hK⟩ := tw_join (wr := [(c2, .inr (3, [.int 0, .ref em, .int 0]))]) hP hD hK [1] [0] rfl rfl (by decide) (by decide) hk1 hFc ht hvm hB
        have hP : va_P D vwCl [(c2, .inr (3, [.int 0, .ref em, .int 0])), (mm, .inr (10, [.int 1, .int 9, .int 0, .int 99, .ref c2, .ref ps2, .ref pr, .int 0, .int 0, .int ((-1)), .ref l2, .long 0]))] _ := hP
        have hD : va_D A [(c2, .inr (3, [.int 0, .ref em, .int 0])), (mm, .inr (10, [.int 1, .int 9, .int 0, .int 99, .ref c2, .ref ps2, .ref pr, .int 0, .int 0, .int ((-1)), .ref l2, .long 0]))] := hD
        have hK : va_K D vwCl [] s := hK
        refine W.widen (k := 0) (n := 0) (Nat.le_refl _) (Nat.le_refl _) ?_
        refine W.eq (g2 := F0 m 42 ls [.int 0]) rfl ?_
        refine W.widen (k := 3) (n := 28) (Nat.le_of_ble_eq_true rfl) (Nat.le_of_ble_eq_true rfl) ?_
        have hP9 := hP.sub (ws' := [(mm, .inr (10, [.int 1, .int 9, .int 0, .int 99, .ref c2, .ref ps2, .ref pr, .int 0, .int 0, .int ((-1)), .ref l2, .long 0]))]) [1] rfl
        have hD9 := hD.sub (ws' := [(mm, .inr (10, [.int 1, .int 9, .int 0, .int 99, .ref c2, .ref ps2, .ref pr, .int 0, .int 0, .int ((-1)), .ref l2, .long 0]))]) [1] (by decide) rfl
        have hK9 := hK.sub (tys' := []) [] rfl
        exact W.iret (v := 0) hx hb hr (fun t ht hW => ⟨⟨0, ([(mm, .inr (10, [.int 1, .int 9, .int 0, .int 99, .ref c2, .ref ps2, .ref pr, .int 0, .int 0, .int ((-1)), .ref l2, .long 0]))], []), rfl, (Or.inl ⟨(Or.inr (Or.inr (Or.inl ⟨g_2, g_4, g_5⟩))), rfl, rfl⟩), by rw [ht]; exact hP9, va_K.moved hW.alike hK9, hD9⟩, hS.F ht⟩) hS.2.2 dX6_car_42
      · obtain ⟨g_6, rfl, rfl⟩ := hw
        obtain ⟨hP, hD, hK⟩ := tw_join (wr := [(c2, .inr (3, [.int 0, .ref em, .int 0])), (mm, .inr (10, [.int 0, .int 9, .int 0, .int 99, .ref c2, .ref ps2, .ref pr, .int 0, .int 0, .int ((-1)), .ref l2, .long 0]))]) hP hD hK [] [0, 1] rfl rfl (by decide) (by decide) hk1 hFc ht hvm hB
        have hP : va_P D vwCl [(c2, .inr (3, [.int 0, .ref em, .int 0])), (mm, .inr (10, [.int 0, .int 9, .int 0, .int 99, .ref c2, .ref ps2, .ref pr, .int 0, .int 0, .int ((-1)), .ref l2, .long 0]))] _ := hP
        have hD : va_D A [(c2, .inr (3, [.int 0, .ref em, .int 0])), (mm, .inr (10, [.int 0, .int 9, .int 0, .int 99, .ref c2, .ref ps2, .ref pr, .int 0, .int 0, .int ((-1)), .ref l2, .long 0]))] := hD
        have hK : va_K D vwCl [] s := hK
        refine W.widen (k := 0) (n := 0) (Nat.le_refl _) (Nat.le_refl _) ?_
        refine W.eq (g2 := F0 m 27 ls [.int 1]) rfl ?_
        refine lv_if_eq (tgt := 37) hx hb dX6_car_27 (by decide) (fun c9 => absurd c9 (by decide)) (fun c9 => ?_)
        refine lv_iload_n hx hb dX6_car_30 rfl (lv_at hl 2 rfl) ?_
        refine lv_iconst (v := 2) hx hb dX6_car_31 (by decide) ?_
        refine lv_irem hx hb dX6_car_32 (by decide) ?_
        refine lv_iconst (v := 1) hx hb dX6_car_33 (by decide) ?_
        refine lv_icmp_ne (tgt := 43) hx hb dX6_car_34 (by decide) (fun c_7 => ?_) (fun c_7 => ?_)
        · refine lv_null hx hb dX6_car_43 ?_
          refine lv_astoreN (lv' := [(4, .null), (0, .ref mm), (1, .int p0), (2, .int p1), (3, .int p2)]) hx hb dX6_car_44 hl (by decide) rfl (fun ls hl => ?_)
          refine lv_iconst (v := 0) hx hb dX6_car_46 (by decide) ?_
          refine lv_istore (lv' := [(5, .int 0), (4, .null), (0, .ref mm), (1, .int p0), (2, .int p1), (3, .int p2)]) hx hb dX6_car_47 hl (by decide) rfl (fun ls hl => ?_)
          refine lv_aload_n hx hb dX6_car_49 rfl (lv_at hl 2 rfl) ?_
          refine va_get (D := D) (ci := 10) (v := .ref c2) (C := RX6) (T := TX6) (N := 12) hx hb hts hiRX6 hown hK hP 1 rfl rfl 4 (by decide) (hts (.fieldLink RX6 20 "TowerliftryModel" "cars" "Ljava/util/ArrayList;") (by decide +kernel)) (fun _ h9 => h9) rfl dX6_car_50 ?_
          have hPc := hP.sub (ws' := [(c2, .inr (3, [.int 0, .ref em, .int 0]))]) [0] rfl
          have hDc := hD.sub (ws' := [(c2, .inr (3, [.int 0, .ref em, .int 0]))]) [0] (by decide) rfl
          have hKc := hK.sub (tys' := []) [] rfl
          have hFc := va_free (wc := [(c2, .inr (3, [.int 0, .ref em, .int 0]))]) hD hS hA [0] rfl
          refine va_callq (va_runV (As := []) (rest := []) ⟨hx, hb, hml, hown, hts⟩ (c_Jx4a65c_iterator_32c93 l hst em kw kb D c2 em _) (cwV 0 hts gX6_car_Jx4a65c_iterator_32c93 rfl rfl rfl (by decide +kernel) ⟨(Nat.le_of_ble_eq_true rfl), (Nat.le_of_ble_eq_true rfl)⟩) (tw_preV hF hS hFc hPc hKc hDc (va_recv hKc hPc (ci := 3) (q0 := 0) rfl rfl)) rfl rfl hl.1 rfl (lv_room (Nat.le_of_ble_eq_true rfl)) dX6_car_53 ⟨(Nat.le_of_ble_eq_true rfl), (Nat.le_of_ble_eq_true rfl)⟩) hS (fun q _ h => hFc q h) hFc (fun r u t H locs ht hvm hw hB hz1 hk1 hS => ?_)
          obtain ⟨q_8, rfl, rfl⟩ := hw
          obtain ⟨hP, hD, hK⟩ := tw_join (wr := [(mm, .inr (10, [.int 0, .int 9, .int 0, .int 99, .ref c2, .ref ps2, .ref pr, .int 0, .int 0, .int ((-1)), .ref l2, .long 0]))]) hP hD hK [0] [1] rfl rfl (by decide) (by decide) hk1 hFc ht hvm hB
          have hP : va_P D vwCl [(mm, .inr (10, [.int 0, .int 9, .int 0, .int 99, .ref c2, .ref ps2, .ref pr, .int 0, .int 0, .int ((-1)), .ref l2, .long 0])), (q_8, .inr (2, [.int 0, .int ((-1)), .int 0, .ref c2])), (c2, .inr (3, [.int 0, .ref em, .int 0]))] _ := hP
          have hD : va_D A [(mm, .inr (10, [.int 0, .int 9, .int 0, .int 99, .ref c2, .ref ps2, .ref pr, .int 0, .int 0, .int ((-1)), .ref l2, .long 0])), (q_8, .inr (2, [.int 0, .int ((-1)), .int 0, .ref c2])), (c2, .inr (3, [.int 0, .ref em, .int 0]))] := hD
          have hK : va_K D vwCl [] s := hK
          refine W.widen (k := 1) (n := 4) (Nat.le_refl _) (Nat.le_refl _) ?_
          refine W.eq (g2 := F0 m 56 ls [.ref q_8]) rfl ?_
          refine lv_astore (lv' := [(6, .ref q_8), (5, .int 0), (4, .null), (0, .ref mm), (1, .int p0), (2, .int p1), (3, .int p2)]) hx hb dX6_car_56 hl (by decide) rfl (fun ls hl => ?_)
          refine lv_aload hx hb dX6_car_58 (lv_at hl 0 rfl) ?_
          have hPc := hP.sub (ws' := [(q_8, .inr (2, [.int 0, .int ((-1)), .int 0, .ref c2])), (c2, .inr (3, [.int 0, .ref em, .int 0]))]) [1, 2] rfl
          have hDc := hD.sub (ws' := [(q_8, .inr (2, [.int 0, .int ((-1)), .int 0, .ref c2])), (c2, .inr (3, [.int 0, .ref em, .int 0]))]) [1, 2] (by decide) rfl
          have hKc := hK.sub (tys' := []) [] rfl
          have hFc := va_free (wc := [(q_8, .inr (2, [.int 0, .int ((-1)), .int 0, .ref c2])), (c2, .inr (3, [.int 0, .ref em, .int 0]))]) hD hS hA [1, 2] rfl
          refine va_callFi (va_runF (hKc.1 2 _ rfl).2 (As := []) (rest := []) ⟨hx, hb, hml, hown, hts⟩ (c_Jx35411_hasNext_aae02 l hst em kw kb D q_8 c2 em _) (va_cwF 0 hts gX6_car_Jx35411_hasNext_aae02_f64Jx35411 rfl rfl rfl (tw_fw hF) (by decide +kernel) ⟨(Nat.le_of_ble_eq_true rfl), (Nat.le_of_ble_eq_true rfl)⟩) (tw_preV hF hS hFc hPc hKc hDc (va_recv hKc hPc (ci := 2) (q0 := 0) rfl rfl)) rfl rfl hl.1 rfl (lv_room (Nat.le_of_ble_eq_true rfl)) dX6_car_60 ⟨(Nat.le_of_ble_eq_true rfl), (Nat.le_of_ble_eq_true rfl)⟩) hS (fun q _ h => hFc q h) hFc (fun r u t H locs ht hvm hw hB hz1 hk1 hS => ?_)
          obtain ⟨rfl, rfl⟩ := hw
          obtain ⟨hP, hD, hK⟩ := tw_join (wr := [(mm, .inr (10, [.int 0, .int 9, .int 0, .int 99, .ref c2, .ref ps2, .ref pr, .int 0, .int 0, .int ((-1)), .ref l2, .long 0]))]) hP hD hK [1, 2] [0] rfl rfl (by decide) (by decide) hk1 hFc ht hvm hB
          have hP : va_P D vwCl [(mm, .inr (10, [.int 0, .int 9, .int 0, .int 99, .ref c2, .ref ps2, .ref pr, .int 0, .int 0, .int ((-1)), .ref l2, .long 0])), (q_8, .inr (2, [.int 0, .int ((-1)), .int 0, .ref c2])), (c2, .inr (3, [.int 0, .ref em, .int 0]))] _ := hP
          have hD : va_D A [(mm, .inr (10, [.int 0, .int 9, .int 0, .int 99, .ref c2, .ref ps2, .ref pr, .int 0, .int 0, .int ((-1)), .ref l2, .long 0])), (q_8, .inr (2, [.int 0, .int ((-1)), .int 0, .ref c2])), (c2, .inr (3, [.int 0, .ref em, .int 0]))] := hD
          have hK : va_K D vwCl [] s := hK
          refine W.widen (k := 1) (n := 4) (Nat.le_refl _) (Nat.le_refl _) ?_
          refine W.eq (g2 := F0 m 65 ls [.int 0]) rfl ?_
          refine lv_if_eq (tgt := 102) hx hb dX6_car_65 (by decide) (fun c9 => ?_) (fun c9 => absurd c9 (by decide))
          refine lv_iload hx hb dX6_car_102 (lv_at hl 1 rfl) ?_
          refine lv_iconst (v := 2) hx hb dX6_car_104 (by decide) ?_
          refine lv_icmp_eq (tgt := 154) hx hb dX6_car_105 (by decide) (fun c9 => absurd c9 (by decide)) (fun c9 => ?_)
          refine lv_iload hx hb dX6_car_108 (lv_at hl 1 rfl) ?_
          refine lv_iconst (v := 1) hx hb dX6_car_110 (by decide) ?_
          refine lv_icmp_ne (tgt := 160) hx hb dX6_car_111 (by decide) (fun c9 => ?_) (fun c9 => absurd c9 (by decide))
          refine lv_aload_n hx hb dX6_car_160 rfl (lv_at hl 3 rfl) ?_
          refine va_get (D := D) (ci := 10) (v := .ref c2) (C := RX6) (T := TX6) (N := 12) hx hb hts hiRX6 hown hK hP 0 rfl rfl 4 (by decide) (hts (.fieldLink RX6 20 "TowerliftryModel" "cars" "Ljava/util/ArrayList;") (by decide +kernel)) (fun _ h9 => h9) rfl dX6_car_161 ?_
          have hPc := hP.sub (ws' := [(c2, .inr (3, [.int 0, .ref em, .int 0]))]) [2] rfl
          have hDc := hD.sub (ws' := [(c2, .inr (3, [.int 0, .ref em, .int 0]))]) [2] (by decide) rfl
          have hKc := hK.sub (tys' := []) [] rfl
          have hFc := va_free (wc := [(c2, .inr (3, [.int 0, .ref em, .int 0]))]) hD hS hA [2] rfl
          refine va_calli (va_runV (As := []) (rest := []) ⟨hx, hb, hml, hown, hts⟩ (c_size0 l hst em kw kb D c2 em _) (cwV 0 hts gX6_car_Jx4a65c_size_8abf5 rfl rfl rfl (by decide +kernel) ⟨(Nat.le_of_ble_eq_true rfl), (Nat.le_of_ble_eq_true rfl)⟩) (tw_preV hF hS hFc hPc hKc hDc (va_recv hKc hPc (ci := 3) (q0 := 0) rfl rfl)) rfl rfl hl.1 rfl (lv_room (Nat.le_of_ble_eq_true rfl)) dX6_car_164 ⟨(Nat.le_of_ble_eq_true rfl), (Nat.le_of_ble_eq_true rfl)⟩) hS (fun q _ h => hFc q h) hFc (fun r u t H locs ht hvm hw hB hz1 hk1 hS => ?_)
          obtain ⟨rfl, rfl⟩ := hw
          obtain ⟨hP, hD, hK⟩ := tw_join (wr := [(mm, .inr (10, [.int 0, .int 9, .int 0, .int 99, .ref c2, .ref ps2, .ref pr, .int 0, .int 0, .int ((-1)), .ref l2, .long 0])), (q_8, .inr (2, [.int 0, .int ((-1)), .int 0, .ref c2]))]) hP hD hK [2] [0, 1] rfl rfl (by decide) (by decide) hk1 hFc ht hvm hB
          have hP : va_P D vwCl [(mm, .inr (10, [.int 0, .int 9, .int 0, .int 99, .ref c2, .ref ps2, .ref pr, .int 0, .int 0, .int ((-1)), .ref l2, .long 0])), (q_8, .inr (2, [.int 0, .int ((-1)), .int 0, .ref c2])), (c2, .inr (3, [.int 0, .ref em, .int 0]))] _ := hP
          have hD : va_D A [(mm, .inr (10, [.int 0, .int 9, .int 0, .int 99, .ref c2, .ref ps2, .ref pr, .int 0, .int 0, .int ((-1)), .ref l2, .long 0])), (q_8, .inr (2, [.int 0, .int ((-1)), .int 0, .ref c2])), (c2, .inr (3, [.int 0, .ref em, .int 0]))] := hD
          have hK : va_K D vwCl [] s := hK
          refine W.widen (k := 1) (n := 4) (Nat.le_refl _) (Nat.le_refl _) ?_
          refine W.eq (g2 := F0 m 167 ls [.int 0]) rfl ?_
          refine lv_iconst (v := 5) hx hb dX6_car_167 (by decide) ?_
          refine lv_icmp_ne (tgt := 177) hx hb dX6_car_168 (by decide) (fun c9 => ?_) (fun c9 => absurd c9 (by decide))
          refine lv_aload_n hx hb dX6_car_177 rfl (lv_at hl 3 rfl) ?_
          refine va_get (D := D) (ci := 10) (v := .ref c2) (C := RX6) (T := TX6) (N := 12) hx hb hts hiRX6 hown hK hP 0 rfl rfl 4 (by decide) (hts (.fieldLink RX6 20 "TowerliftryModel" "cars" "Ljava/util/ArrayList;") (by decide +kernel)) (fun _ h9 => h9) rfl dX6_car_178 ?_
          refine va_new (ci := 8) (fs := [.int 0, .int 0, .int 0, .int 0, .int 0, .int 0, .null, .int 0, .int 0, .int 0, .int 0, .int 0, .int 0, .null]) (C := RX4) (T := TX4) (N := 14) hx hb hts hiRX4 tyX4 tyX4_ok hown (hts (.classLink RX6 73 "TowerliftryModel$Car") (by decide +kernel)) (hts (.instantiable RX4 14) (by decide +kernel)) (hts (.initialized RX4) (by decide +kernel)) hK hP hD hS hA rfl (by decide +kernel) (Nat.le_of_ble_eq_true rfl) (Nat.le_of_ble_eq_true rfl) dX6_car_181 (fun q_9 H hP hD hS => ?_)
          have hP : va_P D vwCl [(mm, .inr (10, [.int 0, .int 9, .int 0, .int 99, .ref c2, .ref ps2, .ref pr, .int 0, .int 0, .int ((-1)), .ref l2, .long 0])), (q_8, .inr (2, [.int 0, .int ((-1)), .int 0, .ref c2])), (c2, .inr (3, [.int 0, .ref em, .int 0])), (q_9, .inr (8, [.int 0, .int 0, .int 0, .int 0, .int 0, .int 0, .null, .int 0, .int 0, .int 0, .int 0, .int 0, .int 0, .null]))] _ := hP
          have hD : va_D A [(mm, .inr (10, [.int 0, .int 9, .int 0, .int 99, .ref c2, .ref ps2, .ref pr, .int 0, .int 0, .int ((-1)), .ref l2, .long 0])), (q_8, .inr (2, [.int 0, .int ((-1)), .int 0, .ref c2])), (c2, .inr (3, [.int 0, .ref em, .int 0])), (q_9, .inr (8, [.int 0, .int 0, .int 0, .int 0, .int 0, .int 0, .null, .int 0, .int 0, .int 0, .int 0, .int 0, .int 0, .null]))] := hD
          refine W.widen (k := 2) (n := 18) (Nat.le_refl _) (Nat.le_refl _) ?_
          refine lv_dup hx hb dX6_car_184 rfl ?_
          refine lv_aload_n hx hb dX6_car_185 rfl (lv_at hl 3 rfl) ?_
          refine lv_aload_n hx hb dX6_car_186 rfl (lv_at hl 3 rfl) ?_
          refine va_get (D := D) (ci := 10) (v := .ref c2) (C := RX6) (T := TX6) (N := 12) hx hb hts hiRX6 hown hK hP 0 rfl rfl 4 (by decide) (hts (.fieldLink RX6 20 "TowerliftryModel" "cars" "Ljava/util/ArrayList;") (by decide +kernel)) (fun _ h9 => h9) rfl dX6_car_187 ?_
          have hPc := hP.sub (ws' := [(c2, .inr (3, [.int 0, .ref em, .int 0]))]) [2] rfl
          have hDc := hD.sub (ws' := [(c2, .inr (3, [.int 0, .ref em, .int 0]))]) [2] (by decide) rfl
          have hKc := hK.sub (tys' := []) [] rfl
          have hFc := va_free (wc := [(c2, .inr (3, [.int 0, .ref em, .int 0]))]) hD hS hA [2] rfl
          refine va_calli (va_runV (As := []) (rest := [.ref mm, .ref q_9, .ref q_9, .ref c2]) ⟨hx, hb, hml, hown, hts⟩ (c_size0 l hst em kw kb D c2 em _) (cwV 0 hts gX6_car_Jx4a65c_size_8abf5 rfl rfl rfl (by decide +kernel) ⟨(Nat.le_of_ble_eq_true rfl), (Nat.le_of_ble_eq_true rfl)⟩) (tw_preV hF hS hFc hPc hKc hDc (va_recv hKc hPc (ci := 3) (q0 := 0) rfl rfl)) rfl rfl hl.1 rfl (lv_room (Nat.le_of_ble_eq_true rfl)) dX6_car_190 ⟨(Nat.le_of_ble_eq_true rfl), (Nat.le_of_ble_eq_true rfl)⟩) hS (fun q _ h => hFc q h) hFc (fun r u t H locs ht hvm hw hB hz1 hk1 hS => ?_)
          obtain ⟨rfl, rfl⟩ := hw
          obtain ⟨hP, hD, hK⟩ := tw_join (wr := [(mm, .inr (10, [.int 0, .int 9, .int 0, .int 99, .ref c2, .ref ps2, .ref pr, .int 0, .int 0, .int ((-1)), .ref l2, .long 0])), (q_8, .inr (2, [.int 0, .int ((-1)), .int 0, .ref c2])), (q_9, .inr (8, [.int 0, .int 0, .int 0, .int 0, .int 0, .int 0, .null, .int 0, .int 0, .int 0, .int 0, .int 0, .int 0, .null]))]) hP hD hK [2] [0, 1, 3] rfl rfl (by decide) (by decide) hk1 hFc ht hvm hB
          have hP : va_P D vwCl [(mm, .inr (10, [.int 0, .int 9, .int 0, .int 99, .ref c2, .ref ps2, .ref pr, .int 0, .int 0, .int ((-1)), .ref l2, .long 0])), (q_8, .inr (2, [.int 0, .int ((-1)), .int 0, .ref c2])), (q_9, .inr (8, [.int 0, .int 0, .int 0, .int 0, .int 0, .int 0, .null, .int 0, .int 0, .int 0, .int 0, .int 0, .int 0, .null])), (c2, .inr (3, [.int 0, .ref em, .int 0]))] _ := hP
          have hD : va_D A [(mm, .inr (10, [.int 0, .int 9, .int 0, .int 99, .ref c2, .ref ps2, .ref pr, .int 0, .int 0, .int ((-1)), .ref l2, .long 0])), (q_8, .inr (2, [.int 0, .int ((-1)), .int 0, .ref c2])), (q_9, .inr (8, [.int 0, .int 0, .int 0, .int 0, .int 0, .int 0, .null, .int 0, .int 0, .int 0, .int 0, .int 0, .int 0, .null])), (c2, .inr (3, [.int 0, .ref em, .int 0]))] := hD
          have hK : va_K D vwCl [] s := hK
          refine W.widen (k := 2) (n := 18) (Nat.le_refl _) (Nat.le_refl _) ?_
          refine W.eq (g2 := F0 m 193 ls [.int 0, .ref mm, .ref q_9, .ref q_9, .ref c2]) rfl ?_
          refine lv_iload_n hx hb dX6_car_193 rfl (lv_at hl 4 rfl) ?_
          refine lv_iload_n hx hb dX6_car_194 rfl (lv_at hl 5 rfl) ?_
          refine lv_iload_n hx hb dX6_car_195 rfl (lv_at hl 6 rfl) ?_
          refine lv_aloadN hx hb dX6_car_196 (lv_at hl 2 rfl) ?_
          have hPc := hP.sub (ws' := [(q_9, .inr (8, [.int 0, .int 0, .int 0, .int 0, .int 0, .int 0, .null, .int 0, .int 0, .int 0, .int 0, .int 0, .int 0, .null]))]) [2] rfl
          have hDc := hD.sub (ws' := [(q_9, .inr (8, [.int 0, .int 0, .int 0, .int 0, .int 0, .int 0, .null, .int 0, .int 0, .int 0, .int 0, .int 0, .int 0, .null]))]) [2] (by decide) rfl
          have hKc := hK.sub (tys' := []) [] rfl
          have hFc := va_free (wc := [(q_9, .inr (8, [.int 0, .int 0, .int 0, .int 0, .int 0, .int 0, .null, .int 0, .int 0, .int 0, .int 0, .int 0, .int 0, .null]))]) hD hS hA [2] rfl
          refine va_callv (va_runI (As := [.ref mm, .int 0, .int p0, .int p1, .int p2, .null]) (rest := [.ref q_9, .ref c2]) ⟨hx, hb, hml, hown, hts⟩ (c_X4_init l hst em kw kb D q_9 mm 0 p0 p1 p2 _) (cwI 6 hts gX6_car_X4_init rfl rfl rfl (hts (.initialized RX4) (by decide +kernel)) (hts (.methodLink RX6 98 yX4_init) (by decide +kernel)) (hts (.instanceMethod yX4_init) (by decide +kernel)) rfl (by decide +kernel) ⟨(Nat.le_of_ble_eq_true rfl), (Nat.le_of_ble_eq_true rfl)⟩) (tw_preS hF hS hFc hPc hKc hDc) rfl rfl hl.1 rfl (lv_room (Nat.le_of_ble_eq_true rfl)) dX6_car_198 ⟨(Nat.le_of_ble_eq_true rfl), (Nat.le_of_ble_eq_true rfl)⟩) hS (fun q _ h => hFc q h) hFc (fun u t H locs ht hvm hw hB hz1 hk1 hS => ?_)
          subst hw
          obtain ⟨hP, hD, hK⟩ := tw_join (wr := [(mm, .inr (10, [.int 0, .int 9, .int 0, .int 99, .ref c2, .ref ps2, .ref pr, .int 0, .int 0, .int ((-1)), .ref l2, .long 0])), (q_8, .inr (2, [.int 0, .int ((-1)), .int 0, .ref c2])), (c2, .inr (3, [.int 0, .ref em, .int 0]))]) hP hD hK [2] [0, 1, 3] rfl rfl (by decide) (by decide) hk1 hFc ht hvm hB
          have hP : va_P D vwCl [(mm, .inr (10, [.int 0, .int 9, .int 0, .int 99, .ref c2, .ref ps2, .ref pr, .int 0, .int 0, .int ((-1)), .ref l2, .long 0])), (q_8, .inr (2, [.int 0, .int ((-1)), .int 0, .ref c2])), (c2, .inr (3, [.int 0, .ref em, .int 0])), (q_9, .inr (8, [.int 0, .int p0, .int p1, .int p2, .int 0, .int 0, .null, .int 0, .int 0, .int 0, .int ((-1)), .int 0, .int 0, .ref mm]))] _ := hP
          have hD : va_D A [(mm, .inr (10, [.int 0, .int 9, .int 0, .int 99, .ref c2, .ref ps2, .ref pr, .int 0, .int 0, .int ((-1)), .ref l2, .long 0])), (q_8, .inr (2, [.int 0, .int ((-1)), .int 0, .ref c2])), (c2, .inr (3, [.int 0, .ref em, .int 0])), (q_9, .inr (8, [.int 0, .int p0, .int p1, .int p2, .int 0, .int 0, .null, .int 0, .int 0, .int 0, .int ((-1)), .int 0, .int 0, .ref mm]))] := hD
          have hK : va_K D vwCl [] s := hK
          refine W.widen (k := 2) (n := 18) (Nat.le_refl _) (Nat.le_refl _) ?_
          refine W.eq (g2 := F0 m 201 ls [.ref q_9, .ref c2]) rfl ?_
          have hPc := hP.sub (ws' := [(c2, .inr (3, [.int 0, .ref em, .int 0])), (q_9, .inr (8, [.int 0, .int p0, .int p1, .int p2, .int 0, .int 0, .null, .int 0, .int 0, .int 0, .int ((-1)), .int 0, .int 0, .ref mm]))]) [2, 3] rfl
          have hDc := hD.sub (ws' := [(c2, .inr (3, [.int 0, .ref em, .int 0])), (q_9, .inr (8, [.int 0, .int p0, .int p1, .int p2, .int 0, .int 0, .null, .int 0, .int 0, .int 0, .int ((-1)), .int 0, .int 0, .ref mm]))]) [2, 3] (by decide) rfl
          have hKc := hK.sub (tys' := []) [] rfl
          have hFc := va_free (wc := [(c2, .inr (3, [.int 0, .ref em, .int 0])), (q_9, .inr (8, [.int 0, .int p0, .int p1, .int p2, .int 0, .int 0, .null, .int 0, .int 0, .int 0, .int ((-1)), .int 0, .int 0, .ref mm]))]) hD hS hA [2, 3] rfl
          refine va_calli (va_runV (As := [.ref q_9]) (rest := []) ⟨hx, hb, hml, hown, hts⟩ (c_add_RX4 l hst em kw kb D c2 q_9 0 p0 p1 p2 0 0 0 0 0 ((-1)) 0 0 mm _) (cwV 1 hts gX6_car_Jx4a65c_add_9ea2d rfl rfl rfl (by decide +kernel) ⟨(Nat.le_of_ble_eq_true rfl), (Nat.le_of_ble_eq_true rfl)⟩) (tw_preV hF hS hFc hPc hKc hDc (va_recv hKc hPc (ci := 3) (q0 := 0) rfl rfl)) rfl rfl hl.1 rfl (lv_room (Nat.le_of_ble_eq_true rfl)) dX6_car_201 ⟨(Nat.le_of_ble_eq_true rfl), (Nat.le_of_ble_eq_true rfl)⟩) hS (fun q _ h => hFc q h) hFc (fun r u t H locs ht hvm hw hB hz1 hk1 hS => ?_)
          obtain ⟨q_10, rfl, rfl⟩ := hw
          obtain ⟨hP, hD, hK⟩ := tw_join (wr := [(mm, .inr (10, [.int 0, .int 9, .int 0, .int 99, .ref c2, .ref ps2, .ref pr, .int 0, .int 0, .int ((-1)), .ref l2, .long 0])), (q_8, .inr (2, [.int 0, .int ((-1)), .int 0, .ref c2]))]) hP hD hK [2, 3] [0, 1] rfl rfl (by decide) (by decide) hk1 hFc ht hvm hB
          have hP : va_P D vwCl [(mm, .inr (10, [.int 0, .int 9, .int 0, .int 99, .ref c2, .ref ps2, .ref pr, .int 0, .int 0, .int ((-1)), .ref l2, .long 0])), (q_8, .inr (2, [.int 0, .int ((-1)), .int 0, .ref c2])), (c2, .inr (3, [.int 1, .ref q_10, .int 1])), (q_9, .inr (8, [.int 0, .int p0, .int p1, .int p2, .int 0, .int 0, .null, .int 0, .int 0, .int 0, .int ((-1)), .int 0, .int 0, .ref mm]))] _ := hP
          have hD : va_D A [(mm, .inr (10, [.int 0, .int 9, .int 0, .int 99, .ref c2, .ref ps2, .ref pr, .int 0, .int 0, .int ((-1)), .ref l2, .long 0])), (q_8, .inr (2, [.int 0, .int ((-1)), .int 0, .ref c2])), (c2, .inr (3, [.int 1, .ref q_10, .int 1])), (q_9, .inr (8, [.int 0, .int p0, .int p1, .int p2, .int 0, .int 0, .null, .int 0, .int 0, .int 0, .int ((-1)), .int 0, .int 0, .ref mm]))] := hD
          have hK : va_K D vwCl [] s := hK
          refine W.widen (k := 3) (n := 28) (Nat.le_refl _) (Nat.le_refl _) ?_
          refine W.eq (g2 := F0 m 204 ls [.int 1]) rfl ?_
          refine lv_pop hx hb dX6_car_204 rfl ?_
          refine lv_aload_n hx hb dX6_car_205 rfl (lv_at hl 3 rfl) ?_
          refine lv_aload_n hx hb dX6_car_206 rfl (lv_at hl 3 rfl) ?_
          refine va_get (D := D) (ci := 10) (v := .ref c2) (C := RX6) (T := TX6) (N := 12) hx hb hts hiRX6 hown hK hP 0 rfl rfl 4 (by decide) (hts (.fieldLink RX6 20 "TowerliftryModel" "cars" "Ljava/util/ArrayList;") (by decide +kernel)) (fun _ h9 => h9) rfl dX6_car_207 ?_
          have hPc := hP.sub (ws' := [(c2, .inr (3, [.int 1, .ref q_10, .int 1]))]) [2] rfl
          have hDc := hD.sub (ws' := [(c2, .inr (3, [.int 1, .ref q_10, .int 1]))]) [2] (by decide) rfl
          have hKc := hK.sub (tys' := []) [] rfl
          have hFc := va_free (wc := [(c2, .inr (3, [.int 1, .ref q_10, .int 1]))]) hD hS hA [2] rfl
          refine va_calli (va_runV (As := []) (rest := [.ref mm]) ⟨hx, hb, hml, hown, hts⟩ (c_size1 l hst em kw kb D c2 1 q_10 _) (cwV 0 hts gX6_car_Jx4a65c_size_8abf5 rfl rfl rfl (by decide +kernel) ⟨(Nat.le_of_ble_eq_true rfl), (Nat.le_of_ble_eq_true rfl)⟩) (tw_preV hF hS hFc hPc hKc hDc (va_recv hKc hPc (ci := 3) (q0 := 0) rfl rfl)) rfl rfl hl.1 rfl (lv_room (Nat.le_of_ble_eq_true rfl)) dX6_car_210 ⟨(Nat.le_of_ble_eq_true rfl), (Nat.le_of_ble_eq_true rfl)⟩) hS (fun q _ h => hFc q h) hFc (fun r u t H locs ht hvm hw hB hz1 hk1 hS => ?_)
          obtain ⟨rfl, rfl⟩ := hw
          obtain ⟨hP, hD, hK⟩ := tw_join (wr := [(mm, .inr (10, [.int 0, .int 9, .int 0, .int 99, .ref c2, .ref ps2, .ref pr, .int 0, .int 0, .int ((-1)), .ref l2, .long 0])), (q_8, .inr (2, [.int 0, .int ((-1)), .int 0, .ref c2])), (q_9, .inr (8, [.int 0, .int p0, .int p1, .int p2, .int 0, .int 0, .null, .int 0, .int 0, .int 0, .int ((-1)), .int 0, .int 0, .ref mm]))]) hP hD hK [2] [0, 1, 3] rfl rfl (by decide) (by decide) hk1 hFc ht hvm hB
          have hP : va_P D vwCl [(mm, .inr (10, [.int 0, .int 9, .int 0, .int 99, .ref c2, .ref ps2, .ref pr, .int 0, .int 0, .int ((-1)), .ref l2, .long 0])), (q_8, .inr (2, [.int 0, .int ((-1)), .int 0, .ref c2])), (q_9, .inr (8, [.int 0, .int p0, .int p1, .int p2, .int 0, .int 0, .null, .int 0, .int 0, .int 0, .int ((-1)), .int 0, .int 0, .ref mm])), (c2, .inr (3, [.int 1, .ref q_10, .int 1]))] _ := hP
          have hD : va_D A [(mm, .inr (10, [.int 0, .int 9, .int 0, .int 99, .ref c2, .ref ps2, .ref pr, .int 0, .int 0, .int ((-1)), .ref l2, .long 0])), (q_8, .inr (2, [.int 0, .int ((-1)), .int 0, .ref c2])), (q_9, .inr (8, [.int 0, .int p0, .int p1, .int p2, .int 0, .int 0, .null, .int 0, .int 0, .int 0, .int ((-1)), .int 0, .int 0, .ref mm])), (c2, .inr (3, [.int 1, .ref q_10, .int 1]))] := hD
          have hK : va_K D vwCl [] s := hK
          refine W.widen (k := 3) (n := 28) (Nat.le_refl _) (Nat.le_refl _) ?_
          refine W.eq (g2 := F0 m 213 ls [.int 1, .ref mm]) rfl ?_
          refine lv_iconst (v := 1) hx hb dX6_car_213 (by decide) ?_
          refine lv_isub hx hb dX6_car_214 ?_
          refine lv_topi (fun z_11 ez_11 => ?_)
          have ez_11 : z_11 = (0 : Int32) := ez_11.trans (by decide)
          subst ez_11
          have hPc := hP.sub (ws' := [(mm, .inr (10, [.int 0, .int 9, .int 0, .int 99, .ref c2, .ref ps2, .ref pr, .int 0, .int 0, .int ((-1)), .ref l2, .long 0]))]) [0] rfl
          have hDc := hD.sub (ws' := [(mm, .inr (10, [.int 0, .int 9, .int 0, .int 99, .ref c2, .ref ps2, .ref pr, .int 0, .int 0, .int ((-1)), .ref l2, .long 0]))]) [0] (by decide) rfl
          have hKc := hK.sub (tys' := []) [] rfl
          have hFc := va_free (wc := [(mm, .inr (10, [.int 0, .int 9, .int 0, .int 99, .ref c2, .ref ps2, .ref pr, .int 0, .int 0, .int ((-1)), .ref l2, .long 0]))]) hD hS hA [0] rfl
          refine va_calli (va_runV (As := [.int 0]) (rest := []) ⟨hx, hb, hml, hown, hts⟩ (c_X6_tells l hst em kw kb D mm 0 0 9 0 99 c2 ps2 pr 0 0 ((-1)) l2 0 _) (cwV 1 hts gX6_car_X6_tells rfl rfl rfl (by decide +kernel) ⟨(Nat.le_of_ble_eq_true rfl), (Nat.le_of_ble_eq_true rfl)⟩) (tw_preV hF hS hFc hPc hKc hDc (va_recv hKc hPc (ci := 10) (q0 := 0) rfl rfl)) rfl rfl hl.1 rfl (lv_room (Nat.le_of_ble_eq_true rfl)) dX6_car_215 ⟨(Nat.le_of_ble_eq_true rfl), (Nat.le_of_ble_eq_true rfl)⟩) hS (fun q _ h => hFc q h) hFc (fun r u t H locs ht hvm hw hB hz1 hk1 hS => ?_)
          obtain ⟨rfl, rfl⟩ := hw
          obtain ⟨hP, hD, hK⟩ := tw_join (wr := [(q_8, .inr (2, [.int 0, .int ((-1)), .int 0, .ref c2])), (q_9, .inr (8, [.int 0, .int p0, .int p1, .int p2, .int 0, .int 0, .null, .int 0, .int 0, .int 0, .int ((-1)), .int 0, .int 0, .ref mm])), (c2, .inr (3, [.int 1, .ref q_10, .int 1]))]) hP hD hK [0] [1, 2, 3] rfl rfl (by decide) (by decide) hk1 hFc ht hvm hB
          have hP : va_P D vwCl [(q_8, .inr (2, [.int 0, .int ((-1)), .int 0, .ref c2])), (q_9, .inr (8, [.int 0, .int p0, .int p1, .int p2, .int 0, .int 0, .null, .int 0, .int 0, .int 0, .int ((-1)), .int 0, .int 0, .ref mm])), (c2, .inr (3, [.int 1, .ref q_10, .int 1])), (mm, .inr (10, [.int 0, .int 9, .int 0, .int 99, .ref c2, .ref ps2, .ref pr, .int 0, .int 0, .int ((-1)), .ref l2, .long 0]))] _ := hP
          have hD : va_D A [(q_8, .inr (2, [.int 0, .int ((-1)), .int 0, .ref c2])), (q_9, .inr (8, [.int 0, .int p0, .int p1, .int p2, .int 0, .int 0, .null, .int 0, .int 0, .int 0, .int ((-1)), .int 0, .int 0, .ref mm])), (c2, .inr (3, [.int 1, .ref q_10, .int 1])), (mm, .inr (10, [.int 0, .int 9, .int 0, .int 99, .ref c2, .ref ps2, .ref pr, .int 0, .int 0, .int ((-1)), .ref l2, .long 0]))] := hD
          have hK : va_K D vwCl [] s := hK
          refine W.widen (k := 3) (n := 28) (Nat.le_refl _) (Nat.le_refl _) ?_
          refine W.eq (g2 := F0 m 218 ls [.int 0]) rfl ?_
          refine W.widen (k := 3) (n := 28) (Nat.le_of_ble_eq_true rfl) (Nat.le_of_ble_eq_true rfl) ?_
          have hP9 := hP.sub (ws' := [(mm, .inr (10, [.int 0, .int 9, .int 0, .int 99, .ref c2, .ref ps2, .ref pr, .int 0, .int 0, .int ((-1)), .ref l2, .long 0]))]) [3] rfl
          have hD9 := hD.sub (ws' := [(mm, .inr (10, [.int 0, .int 9, .int 0, .int 99, .ref c2, .ref ps2, .ref pr, .int 0, .int 0, .int ((-1)), .ref l2, .long 0]))]) [3] (by decide) rfl
          have hK9 := hK.sub (tys' := []) [] rfl
          exact W.iret (v := 0) hx hb hr (fun t ht hW => ⟨⟨0, ([(mm, .inr (10, [.int 0, .int 9, .int 0, .int 99, .ref c2, .ref ps2, .ref pr, .int 0, .int 0, .int ((-1)), .ref l2, .long 0]))], []), rfl, (Or.inr (⟨⟨g_2, g_4, g_6, c_7⟩, rfl, rfl⟩)), by rw [ht]; exact hP9, va_K.moved hW.alike hK9, hD9⟩, hS.F ht⟩) hS.2.2 dX6_car_218
        · refine lv_aload_n hx hb dX6_car_37 rfl (lv_at hl 0 rfl) ?_
          refine lv_iconst (v := 1) hx hb dX6_car_38 (by decide) ?_
          have hPc := hP.sub (ws' := [(mm, .inr (10, [.int 0, .int 9, .int 0, .int 99, .ref c2, .ref ps2, .ref pr, .int 0, .int 0, .int ((-1)), .ref l2, .long 0]))]) [1] rfl
          have hDc := hD.sub (ws' := [(mm, .inr (10, [.int 0, .int 9, .int 0, .int 99, .ref c2, .ref ps2, .ref pr, .int 0, .int 0, .int ((-1)), .ref l2, .long 0]))]) [1] (by decide) rfl
          have hKc := hK.sub (tys' := []) [] rfl
          have hFc := va_free (wc := [(mm, .inr (10, [.int 0, .int 9, .int 0, .int 99, .ref c2, .ref ps2, .ref pr, .int 0, .int 0, .int ((-1)), .ref l2, .long 0]))]) hD hS hA [1] rfl
          refine va_calli (va_runV (As := [.int 1]) (rest := []) ⟨hx, hb, hml, hown, hts⟩ (c_X6_fails l hst em kw kb D mm 1 0 9 0 99 c2 ps2 pr 0 0 ((-1)) l2 0 _) (cwV 1 hts gX6_car_X6_fails rfl rfl rfl (by decide +kernel) ⟨(Nat.le_of_ble_eq_true rfl), (Nat.le_of_ble_eq_true rfl)⟩) (tw_preV hF hS hFc hPc hKc hDc (va_recv hKc hPc (ci := 10) (q0 := 0) rfl rfl)) rfl rfl hl.1 rfl (lv_room (Nat.le_of_ble_eq_true rfl)) dX6_car_39 ⟨(Nat.le_of_ble_eq_true rfl), (Nat.le_of_ble_eq_true rfl)⟩) hS (fun q _ h => hFc q h) hFc (fun r u t H locs ht hvm hw hB hz1 hk1 hS => ?_)
          obtain ⟨rfl, rfl⟩ := hw
          obtain ⟨hP, hD, hK⟩ := tw_join (wr := [(c2, .inr (3, [.int 0, .ref em, .int 0]))]) hP hD hK [1] [0] rfl rfl (by decide) (by decide) hk1 hFc ht hvm hB
          have hP : va_P D vwCl [(c2, .inr (3, [.int 0, .ref em, .int 0])), (mm, .inr (10, [.int 1, .int 9, .int 0, .int 99, .ref c2, .ref ps2, .ref pr, .int 0, .int 0, .int ((-1)), .ref l2, .long 0]))] _ := hP
          have hD : va_D A [(c2, .inr (3, [.int 0, .ref em, .int 0])), (mm, .inr (10, [.int 1, .int 9, .int 0, .int 99, .ref c2, .ref ps2, .ref pr, .int 0, .int 0, .int ((-1)), .ref l2, .long 0]))] := hD
          have hK : va_K D vwCl [] s := hK
          refine W.widen (k := 0) (n := 0) (Nat.le_refl _) (Nat.le_refl _) ?_
          refine W.eq (g2 := F0 m 42 ls [.int 0]) rfl ?_
          refine W.widen (k := 3) (n := 28) (Nat.le_of_ble_eq_true rfl) (Nat.le_of_ble_eq_true rfl) ?_
          have hP9 := hP.sub (ws' := [(mm, .inr (10, [.int 1, .int 9, .int 0, .int 99, .ref c2, .ref ps2, .ref pr, .int 0, .int 0, .int ((-1)), .ref l2, .long 0]))]) [1] rfl
          have hD9 := hD.sub (ws' := [(mm, .inr (10, [.int 1, .int 9, .int 0, .int 99, .ref c2, .ref ps2, .ref pr, .int 0, .int 0, .int ((-1)), .ref l2, .long 0]))]) [1] (by decide) rfl
          have hK9 := hK.sub (tys' := []) [] rfl
          exact W.iret (v := 0) hx hb hr (fun t ht hW => ⟨⟨0, ([(mm, .inr (10, [.int 1, .int 9, .int 0, .int 99, .ref c2, .ref ps2, .ref pr, .int 0, .int 0, .int ((-1)), .ref l2, .long 0]))], []), rfl, (Or.inl ⟨(Or.inr (Or.inr (Or.inr (⟨g_2, g_4, g_6, c_7⟩)))), rfl, rfl⟩), by rw [ht]; exact hP9, va_K.moved hW.alike hK9, hD9⟩, hS.F ht⟩) hS.2.2 dX6_car_42
set_option maxHeartbeats 4000000 in
set_option maxRecDepth 100000 in
theorem c_X6_setDispatcher (l : Launch) (hst : l.stackTraces = false) (em kw kb : Nat) (D : va_G) (mm : Nat) (p0 : Int32) (c2 : Nat) (ps2 : Nat) (pr : Nat) (l2 : Nat) (hn0 : narrow .char (.int p0) = .int p0 ∧ fits .char (.int p0) = true) (sz : Nat) : Met l yX6_setDispatcher wsX6_setDispatcher ({ frames := 0, cells := 0, slots := 0, locals := 0 }) (va_Pc [.ref mm, .int p0] (tw_Pre em kw kb D sz [(mm, .inr (10, [.int 0, .int 9, .int 0, .int 99, .ref c2, .ref ps2, .ref pr, .int 0, .int 0, .int ((-1)), .ref l2, .long 0]))] [])) (va_Qi (fun (r : Int32) (u : tw_U) => (((p0 = 99) ∨ (¬ p0 = 99 ∧ p0 = 122) ∨ (¬ p0 = 99 ∧ ¬ p0 = 122 ∧ p0 = 101) ∨ (¬ p0 = 99 ∧ ¬ p0 = 122 ∧ ¬ p0 = 101 ∧ p0 = 97)) ∧ r = 99 ∧ u = ([(mm, .inr (10, [.int 0, .int 9, .int 0, .int p0, .ref c2, .ref ps2, .ref pr, .int 0, .int 0, .int ((-1)), .ref l2, .long 0]))], [])) ∨ ((¬ p0 = 99 ∧ ¬ p0 = 122 ∧ ¬ p0 = 101 ∧ ¬ p0 = 97) ∧ r = 99 ∧ u = ([(mm, .inr (10, [.int 1, .int 9, .int 0, .int 99, .ref c2, .ref ps2, .ref pr, .int 0, .int 0, .int ((-1)), .ref l2, .long 0]))], []))) (tw_B D (va_A [(mm, .inr (10, [.int 0, .int 9, .int 0, .int 99, .ref c2, .ref ps2, .ref pr, .int 0, .int 0, .int ((-1)), .ref l2, .long 0]))] sz)) (va_A [(mm, .inr (10, [.int 0, .int 9, .int 0, .int 99, .ref c2, .ref ps2, .ref pr, .int 0, .int 0, .int ((-1)), .ref l2, .long 0]))] sz)) 0 0 (va_A [(mm, .inr (10, [.int 0, .int 9, .int 0, .int 99, .ref c2, .ref ps2, .ref pr, .int 0, .int 0, .int ((-1)), .ref l2, .long 0]))] sz) := by
  refine Met.ofW (cc := cX6_setDispatcher) (maxL := 3) (ret := (some .char)) (by decide) rfl ?_
  intro p e s m args below meth c s₁ B hml hv
  obtain ⟨rfl, hsz, hP, hK, hD0, hF⟩ := hv
  have hx := B.exec
  have hb := B.bytes
  have hr := B.returns
  have hts := atoms_spec (ws := wsX6_setDispatcher) B.pre
  have hown : s.vm.findClass RX6 = some m.cls := findClass_of_methodNamed B.named
  have hlocks := B.notSynchronized
  have hiRX6 : ∀ w ∈ u_ws RX6 TX6 12, w ∈ wsX6_setDispatcher := by decide +kernel
  subst hsz
  have hD := hD0.self (sz := s.heap.size)
  generalize hAe : va_A [(mm, .inr (10, [.int 0, .int 9, .int 0, .int 99, .ref c2, .ref ps2, .ref pr, .int 0, .int 0, .int ((-1)), .ref l2, .long 0]))] s.heap.size = A at hD hF ⊢
  have hA : ∀ q : Nat, s.heap.size ≤ q → A q := fun q h => by rw [← hAe]; exact Or.inr h
  have hS : va_S A s.heap s.heap [] := va_S.rf
  have hP : va_P D vwCl [(mm, .inr (10, [.int 0, .int 9, .int 0, .int 99, .ref c2, .ref ps2, .ref pr, .int 0, .int 0, .int ((-1)), .ref l2, .long 0]))] s.heap := hP
  have hl := lv_entry ([.ref mm, .int p0]) (n := 3) (Nat.le_of_ble_eq_true rfl)
  rw [lg_entry_eq]
  generalize (lg_sl ([.ref mm, .int p0]) ++ List.replicate (3 - (lg_sl ([.ref mm, .int p0])).length) Slot.unset).toArray = ls at hl ⊢
  have hl : lv_has ls 3 [(0, .ref mm), (1, .int p0)] := hl
  refine lv_aload_n hx hb dX6_setDispatcher_0 rfl (lv_at hl 0 rfl) ?_
  refine lv_iload_n hx hb dX6_setDispatcher_1 rfl (lv_at hl 1 rfl) ?_
  refine lv_bipush (v := 99) hx hb dX6_setDispatcher_2 (by decide) ?_
  refine lv_icmp_eq (tgt := 25) hx hb dX6_setDispatcher_4 (by decide) (fun c_1 => ?_) (fun c_1 => ?_)
  · refine lv_iconst (v := 0) hx hb dX6_setDispatcher_25 (by decide) ?_
    refine lv_goto (tgt := 30) hx hb dX6_setDispatcher_26 (by decide) ?_
    refine va_put (D := D) (ci := 10) (v := .int 0) (ty := .int) (C := RX6) (T := TX6) (N := 12) hx hb hts hiRX6 tyX6 tyX6_ok nmX6 hown hK hP hD hS 0 rfl rfl 0 (by decide) (hts (.fieldLink RX6 38 "TowerliftryModel" "thrown" "I") (by decide +kernel)) (fun _ h9 => h9) rfl (by decide +kernel) rfl rfl (Nat.le_of_ble_eq_true rfl) dX6_setDispatcher_30 (fun H locs hP hD hS => ?_)
    have hP : va_P D vwCl [(mm, .inr (10, [.int 0, .int 9, .int 0, .int 99, .ref c2, .ref ps2, .ref pr, .int 0, .int 0, .int ((-1)), .ref l2, .long 0]))] _ := hP
    have hD : va_D A [(mm, .inr (10, [.int 0, .int 9, .int 0, .int 99, .ref c2, .ref ps2, .ref pr, .int 0, .int 0, .int ((-1)), .ref l2, .long 0]))] := hD
    refine lv_aload_n hx hb dX6_setDispatcher_33 rfl (lv_at hl 0 rfl) ?_
    refine va_get (D := D) (ci := 10) (v := .int 99) (C := RX6) (T := TX6) (N := 12) hx hb hts hiRX6 hown hK hP 0 rfl rfl 3 (by decide) (hts (.fieldLink RX6 13 "TowerliftryModel" "dispatcher" "C") (by decide +kernel)) (fun _ h9 => h9) rfl dX6_setDispatcher_34 ?_
    refine lv_istore_n (lv' := [(2, .int 99), (0, .ref mm), (1, .int p0)]) hx hb dX6_setDispatcher_37 rfl hl (by decide) rfl (fun ls hl => ?_)
    refine lv_aload_n hx hb dX6_setDispatcher_38 rfl (lv_at hl 1 rfl) ?_
    refine va_get (D := D) (ci := 10) (v := .int 0) (C := RX6) (T := TX6) (N := 12) hx hb hts hiRX6 hown hK hP 0 rfl rfl 0 (by decide) (hts (.fieldLink RX6 38 "TowerliftryModel" "thrown" "I") (by decide +kernel)) (fun _ h9 => h9) rfl dX6_setDispatcher_39 ?_
    refine lv_if_ne (tgt := 50) hx hb dX6_setDispatcher_42 (by decide) (fun c9 => absurd c9 (by decide)) (fun c9 => ?_)
    refine lv_aload_n hx hb dX6_setDispatcher_45 rfl (lv_at hl 1 rfl) ?_
    refine lv_iload_n hx hb dX6_setDispatcher_46 rfl (lv_at hl 2 rfl) ?_
    refine va_put (D := D) (ci := 10) (v := .int p0) (ty := .char) (C := RX6) (T := TX6) (N := 12) hx hb hts hiRX6 tyX6 tyX6_ok nmX6 hown hK hP hD hS 0 rfl rfl 3 (by decide) (hts (.fieldLink RX6 13 "TowerliftryModel" "dispatcher" "C") (by decide +kernel)) (fun _ h9 => h9) rfl (by decide +kernel) hn0.1 hn0.2 (Nat.le_of_ble_eq_true rfl) dX6_setDispatcher_47 (fun H locs hP hD hS => ?_)
    have hP : va_P D vwCl [(mm, .inr (10, [.int 0, .int 9, .int 0, .int p0, .ref c2, .ref ps2, .ref pr, .int 0, .int 0, .int ((-1)), .ref l2, .long 0]))] _ := hP
    have hD : va_D A [(mm, .inr (10, [.int 0, .int 9, .int 0, .int p0, .ref c2, .ref ps2, .ref pr, .int 0, .int 0, .int ((-1)), .ref l2, .long 0]))] := hD
    refine lv_iload_n hx hb dX6_setDispatcher_50 rfl (lv_at hl 0 rfl) ?_
    refine W.widen (k := 0) (n := 0) (Nat.le_of_ble_eq_true rfl) (Nat.le_of_ble_eq_true rfl) ?_
    have hP9 := hP.sub (ws' := [(mm, .inr (10, [.int 0, .int 9, .int 0, .int p0, .ref c2, .ref ps2, .ref pr, .int 0, .int 0, .int ((-1)), .ref l2, .long 0]))]) [0] rfl
    have hD9 := hD.sub (ws' := [(mm, .inr (10, [.int 0, .int 9, .int 0, .int p0, .ref c2, .ref ps2, .ref pr, .int 0, .int 0, .int ((-1)), .ref l2, .long 0]))]) [0] (by decide) rfl
    have hK9 := hK.sub (tys' := []) [] rfl
    exact W.zret (v := 99) (ty := .char) hx hb hr (by decide) (fun t ht hW => ⟨⟨99, ([(mm, .inr (10, [.int 0, .int 9, .int 0, .int p0, .ref c2, .ref ps2, .ref pr, .int 0, .int 0, .int ((-1)), .ref l2, .long 0]))], []), rfl, (Or.inl ⟨(Or.inl c_1), rfl, rfl⟩), by rw [ht]; exact hP9, va_K.moved hW.alike hK9, hD9⟩, hS.F ht⟩) hS.2.2 dX6_setDispatcher_51
  · refine lv_iload_n hx hb dX6_setDispatcher_7 rfl (lv_at hl 1 rfl) ?_
    refine lv_bipush (v := 122) hx hb dX6_setDispatcher_8 (by decide) ?_
    refine lv_icmp_eq (tgt := 25) hx hb dX6_setDispatcher_10 (by decide) (fun c_2 => ?_) (fun c_2 => ?_)
    · refine lv_iconst (v := 0) hx hb dX6_setDispatcher_25 (by decide) ?_
      refine lv_goto (tgt := 30) hx hb dX6_setDispatcher_26 (by decide) ?_
      refine va_put (D := D) (ci := 10) (v := .int 0) (ty := .int) (C := RX6) (T := TX6) (N := 12) hx hb hts hiRX6 tyX6 tyX6_ok nmX6 hown hK hP hD hS 0 rfl rfl 0 (by decide) (hts (.fieldLink RX6 38 "TowerliftryModel" "thrown" "I") (by decide +kernel)) (fun _ h9 => h9) rfl (by decide +kernel) rfl rfl (Nat.le_of_ble_eq_true rfl) dX6_setDispatcher_30 (fun H locs hP hD hS => ?_)
      have hP : va_P D vwCl [(mm, .inr (10, [.int 0, .int 9, .int 0, .int 99, .ref c2, .ref ps2, .ref pr, .int 0, .int 0, .int ((-1)), .ref l2, .long 0]))] _ := hP
      have hD : va_D A [(mm, .inr (10, [.int 0, .int 9, .int 0, .int 99, .ref c2, .ref ps2, .ref pr, .int 0, .int 0, .int ((-1)), .ref l2, .long 0]))] := hD
      refine lv_aload_n hx hb dX6_setDispatcher_33 rfl (lv_at hl 0 rfl) ?_
      refine va_get (D := D) (ci := 10) (v := .int 99) (C := RX6) (T := TX6) (N := 12) hx hb hts hiRX6 hown hK hP 0 rfl rfl 3 (by decide) (hts (.fieldLink RX6 13 "TowerliftryModel" "dispatcher" "C") (by decide +kernel)) (fun _ h9 => h9) rfl dX6_setDispatcher_34 ?_
      refine lv_istore_n (lv' := [(2, .int 99), (0, .ref mm), (1, .int p0)]) hx hb dX6_setDispatcher_37 rfl hl (by decide) rfl (fun ls hl => ?_)
      refine lv_aload_n hx hb dX6_setDispatcher_38 rfl (lv_at hl 1 rfl) ?_
      refine va_get (D := D) (ci := 10) (v := .int 0) (C := RX6) (T := TX6) (N := 12) hx hb hts hiRX6 hown hK hP 0 rfl rfl 0 (by decide) (hts (.fieldLink RX6 38 "TowerliftryModel" "thrown" "I") (by decide +kernel)) (fun _ h9 => h9) rfl dX6_setDispatcher_39 ?_
      refine lv_if_ne (tgt := 50) hx hb dX6_setDispatcher_42 (by decide) (fun c9 => absurd c9 (by decide)) (fun c9 => ?_)
      refine lv_aload_n hx hb dX6_setDispatcher_45 rfl (lv_at hl 1 rfl) ?_
      refine lv_iload_n hx hb dX6_setDispatcher_46 rfl (lv_at hl 2 rfl) ?_
      refine va_put (D := D) (ci := 10) (v := .int p0) (ty := .char) (C := RX6) (T := TX6) (N := 12) hx hb hts hiRX6 tyX6 tyX6_ok nmX6 hown hK hP hD hS 0 rfl rfl 3 (by decide) (hts (.fieldLink RX6 13 "TowerliftryModel" "dispatcher" "C") (by decide +kernel)) (fun _ h9 => h9) rfl (by decide +kernel) hn0.1 hn0.2 (Nat.le_of_ble_eq_true rfl) dX6_setDispatcher_47 (fun H locs hP hD hS => ?_)
      have hP : va_P D vwCl [(mm, .inr (10, [.int 0, .int 9, .int 0, .int p0, .ref c2, .ref ps2, .ref pr, .int 0, .int 0, .int ((-1)), .ref l2, .long 0]))] _ := hP
      have hD : va_D A [(mm, .inr (10, [.int 0, .int 9, .int 0, .int p0, .ref c2, .ref ps2, .ref pr, .int 0, .int 0, .int ((-1)), .ref l2, .long 0]))] := hD
      refine lv_iload_n hx hb dX6_setDispatcher_50 rfl (lv_at hl 0 rfl) ?_
      refine W.widen (k := 0) (n := 0) (Nat.le_of_ble_eq_true rfl) (Nat.le_of_ble_eq_true rfl) ?_
      have hP9 := hP.sub (ws' := [(mm, .inr (10, [.int 0, .int 9, .int 0, .int p0, .ref c2, .ref ps2, .ref pr, .int 0, .int 0, .int ((-1)), .ref l2, .long 0]))]) [0] rfl
      have hD9 := hD.sub (ws' := [(mm, .inr (10, [.int 0, .int 9, .int 0, .int p0, .ref c2, .ref ps2, .ref pr, .int 0, .int 0, .int ((-1)), .ref l2, .long 0]))]) [0] (by decide) rfl
      have hK9 := hK.sub (tys' := []) [] rfl
      exact W.zret (v := 99) (ty := .char) hx hb hr (by decide) (fun t ht hW => ⟨⟨99, ([(mm, .inr (10, [.int 0, .int 9, .int 0, .int p0, .ref c2, .ref ps2, .ref pr, .int 0, .int 0, .int ((-1)), .ref l2, .long 0]))], []), rfl, (Or.inl ⟨(Or.inr (Or.inl ⟨c_1, c_2⟩)), rfl, rfl⟩), by rw [ht]; exact hP9, va_K.moved hW.alike hK9, hD9⟩, hS.F ht⟩) hS.2.2 dX6_setDispatcher_51
    · refine lv_iload_n hx hb dX6_setDispatcher_13 rfl (lv_at hl 1 rfl) ?_
      refine lv_bipush (v := 101) hx hb dX6_setDispatcher_14 (by decide) ?_
      refine lv_icmp_eq (tgt := 25) hx hb dX6_setDispatcher_16 (by decide) (fun c_3 => ?_) (fun c_3 => ?_)
      · refine lv_iconst (v := 0) hx hb dX6_setDispatcher_25 (by decide) ?_
        refine lv_goto (tgt := 30) hx hb dX6_setDispatcher_26 (by decide) ?_
        refine va_put (D := D) (ci := 10) (v := .int 0) (ty := .int) (C := RX6) (T := TX6) (N := 12) hx hb hts hiRX6 tyX6 tyX6_ok nmX6 hown hK hP hD hS 0 rfl rfl 0 (by decide) (hts (.fieldLink RX6 38 "TowerliftryModel" "thrown" "I") (by decide +kernel)) (fun _ h9 => h9) rfl (by decide +kernel) rfl rfl (Nat.le_of_ble_eq_true rfl) dX6_setDispatcher_30 (fun H locs hP hD hS => ?_)
        have hP : va_P D vwCl [(mm, .inr (10, [.int 0, .int 9, .int 0, .int 99, .ref c2, .ref ps2, .ref pr, .int 0, .int 0, .int ((-1)), .ref l2, .long 0]))] _ := hP
        have hD : va_D A [(mm, .inr (10, [.int 0, .int 9, .int 0, .int 99, .ref c2, .ref ps2, .ref pr, .int 0, .int 0, .int ((-1)), .ref l2, .long 0]))] := hD
        refine lv_aload_n hx hb dX6_setDispatcher_33 rfl (lv_at hl 0 rfl) ?_
        refine va_get (D := D) (ci := 10) (v := .int 99) (C := RX6) (T := TX6) (N := 12) hx hb hts hiRX6 hown hK hP 0 rfl rfl 3 (by decide) (hts (.fieldLink RX6 13 "TowerliftryModel" "dispatcher" "C") (by decide +kernel)) (fun _ h9 => h9) rfl dX6_setDispatcher_34 ?_
        refine lv_istore_n (lv' := [(2, .int 99), (0, .ref mm), (1, .int p0)]) hx hb dX6_setDispatcher_37 rfl hl (by decide) rfl (fun ls hl => ?_)
        refine lv_aload_n hx hb dX6_setDispatcher_38 rfl (lv_at hl 1 rfl) ?_
        refine va_get (D := D) (ci := 10) (v := .int 0) (C := RX6) (T := TX6) (N := 12) hx hb hts hiRX6 hown hK hP 0 rfl rfl 0 (by decide) (hts (.fieldLink RX6 38 "TowerliftryModel" "thrown" "I") (by decide +kernel)) (fun _ h9 => h9) rfl dX6_setDispatcher_39 ?_
        refine lv_if_ne (tgt := 50) hx hb dX6_setDispatcher_42 (by decide) (fun c9 => absurd c9 (by decide)) (fun c9 => ?_)
        refine lv_aload_n hx hb dX6_setDispatcher_45 rfl (lv_at hl 1 rfl) ?_
        refine lv_iload_n hx hb dX6_setDispatcher_46 rfl (lv_at hl 2 rfl) ?_
        refine va_put (D := D) (ci := 10) (v := .int p0) (ty := .char) (C := RX6) (T := TX6) (N := 12) hx hb hts hiRX6 tyX6 tyX6_ok nmX6 hown hK hP hD hS 0 rfl rfl 3 (by decide) (hts (.fieldLink RX6 13 "TowerliftryModel" "dispatcher" "C") (by decide +kernel)) (fun _ h9 => h9) rfl (by decide +kernel) hn0.1 hn0.2 (Nat.le_of_ble_eq_true rfl) dX6_setDispatcher_47 (fun H locs hP hD hS => ?_)
        have hP : va_P D vwCl [(mm, .inr (10, [.int 0, .int 9, .int 0, .int p0, .ref c2, .ref ps2, .ref pr, .int 0, .int 0, .int ((-1)), .ref l2, .long 0]))] _ := hP
        have hD : va_D A [(mm, .inr (10, [.int 0, .int 9, .int 0, .int p0, .ref c2, .ref ps2, .ref pr, .int 0, .int 0, .int ((-1)), .ref l2, .long 0]))] := hD
        refine lv_iload_n hx hb dX6_setDispatcher_50 rfl (lv_at hl 0 rfl) ?_
        refine W.widen (k := 0) (n := 0) (Nat.le_of_ble_eq_true rfl) (Nat.le_of_ble_eq_true rfl) ?_
        have hP9 := hP.sub (ws' := [(mm, .inr (10, [.int 0, .int 9, .int 0, .int p0, .ref c2, .ref ps2, .ref pr, .int 0, .int 0, .int ((-1)), .ref l2, .long 0]))]) [0] rfl
        have hD9 := hD.sub (ws' := [(mm, .inr (10, [.int 0, .int 9, .int 0, .int p0, .ref c2, .ref ps2, .ref pr, .int 0, .int 0, .int ((-1)), .ref l2, .long 0]))]) [0] (by decide) rfl
        have hK9 := hK.sub (tys' := []) [] rfl
        exact W.zret (v := 99) (ty := .char) hx hb hr (by decide) (fun t ht hW => ⟨⟨99, ([(mm, .inr (10, [.int 0, .int 9, .int 0, .int p0, .ref c2, .ref ps2, .ref pr, .int 0, .int 0, .int ((-1)), .ref l2, .long 0]))], []), rfl, (Or.inl ⟨(Or.inr (Or.inr (Or.inl ⟨c_1, c_2, c_3⟩))), rfl, rfl⟩), by rw [ht]; exact hP9, va_K.moved hW.alike hK9, hD9⟩, hS.F ht⟩) hS.2.2 dX6_setDispatcher_51
      · refine lv_iload_n hx hb dX6_setDispatcher_19 rfl (lv_at hl 1 rfl) ?_
        refine lv_bipush (v := 97) hx hb dX6_setDispatcher_20 (by decide) ?_
        refine lv_icmp_ne (tgt := 29) hx hb dX6_setDispatcher_22 (by decide) (fun c_4 => ?_) (fun c_4 => ?_)
        · refine lv_iconst (v := 1) hx hb dX6_setDispatcher_29 (by decide) ?_
          refine va_put (D := D) (ci := 10) (v := .int 1) (ty := .int) (C := RX6) (T := TX6) (N := 12) hx hb hts hiRX6 tyX6 tyX6_ok nmX6 hown hK hP hD hS 0 rfl rfl 0 (by decide) (hts (.fieldLink RX6 38 "TowerliftryModel" "thrown" "I") (by decide +kernel)) (fun _ h9 => h9) rfl (by decide +kernel) rfl rfl (Nat.le_of_ble_eq_true rfl) dX6_setDispatcher_30 (fun H locs hP hD hS => ?_)
          have hP : va_P D vwCl [(mm, .inr (10, [.int 1, .int 9, .int 0, .int 99, .ref c2, .ref ps2, .ref pr, .int 0, .int 0, .int ((-1)), .ref l2, .long 0]))] _ := hP
          have hD : va_D A [(mm, .inr (10, [.int 1, .int 9, .int 0, .int 99, .ref c2, .ref ps2, .ref pr, .int 0, .int 0, .int ((-1)), .ref l2, .long 0]))] := hD
          refine lv_aload_n hx hb dX6_setDispatcher_33 rfl (lv_at hl 0 rfl) ?_
          refine va_get (D := D) (ci := 10) (v := .int 99) (C := RX6) (T := TX6) (N := 12) hx hb hts hiRX6 hown hK hP 0 rfl rfl 3 (by decide) (hts (.fieldLink RX6 13 "TowerliftryModel" "dispatcher" "C") (by decide +kernel)) (fun _ h9 => h9) rfl dX6_setDispatcher_34 ?_
          refine lv_istore_n (lv' := [(2, .int 99), (0, .ref mm), (1, .int p0)]) hx hb dX6_setDispatcher_37 rfl hl (by decide) rfl (fun ls hl => ?_)
          refine lv_aload_n hx hb dX6_setDispatcher_38 rfl (lv_at hl 1 rfl) ?_
          refine va_get (D := D) (ci := 10) (v := .int 1) (C := RX6) (T := TX6) (N := 12) hx hb hts hiRX6 hown hK hP 0 rfl rfl 0 (by decide) (hts (.fieldLink RX6 38 "TowerliftryModel" "thrown" "I") (by decide +kernel)) (fun _ h9 => h9) rfl dX6_setDispatcher_39 ?_
          refine lv_if_ne (tgt := 50) hx hb dX6_setDispatcher_42 (by decide) (fun c9 => ?_) (fun c9 => absurd c9 (by decide))
          refine lv_iload_n hx hb dX6_setDispatcher_50 rfl (lv_at hl 0 rfl) ?_
          refine W.widen (k := 0) (n := 0) (Nat.le_of_ble_eq_true rfl) (Nat.le_of_ble_eq_true rfl) ?_
          have hP9 := hP.sub (ws' := [(mm, .inr (10, [.int 1, .int 9, .int 0, .int 99, .ref c2, .ref ps2, .ref pr, .int 0, .int 0, .int ((-1)), .ref l2, .long 0]))]) [0] rfl
          have hD9 := hD.sub (ws' := [(mm, .inr (10, [.int 1, .int 9, .int 0, .int 99, .ref c2, .ref ps2, .ref pr, .int 0, .int 0, .int ((-1)), .ref l2, .long 0]))]) [0] (by decide) rfl
          have hK9 := hK.sub (tys' := []) [] rfl
          exact W.zret (v := 99) (ty := .char) hx hb hr (by decide) (fun t ht hW => ⟨⟨99, ([(mm, .inr (10, [.int 1, .int 9, .int 0, .int 99, .ref c2, .ref ps2, .ref pr, .int 0, .int 0, .int ((-1)), .ref l2, .long 0]))], []), rfl, (Or.inr (⟨⟨c_1, c_2, c_3, c_4⟩, rfl, rfl⟩)), by rw [ht]; exact hP9, va_K.moved hW.alike hK9, hD9⟩, hS.F ht⟩) hS.2.2 dX6_setDispatcher_51
        · refine lv_iconst (v := 0) hx hb dX6_setDispatcher_25 (by decide) ?_
          refine lv_goto (tgt := 30) hx hb dX6_setDispatcher_26 (by decide) ?_
          refine va_put (D := D) (ci := 10) (v := .int 0) (ty := .int) (C := RX6) (T := TX6) (N := 12) hx hb hts hiRX6 tyX6 tyX6_ok nmX6 hown hK hP hD hS 0 rfl rfl 0 (by decide) (hts (.fieldLink RX6 38 "TowerliftryModel" "thrown" "I") (by decide +kernel)) (fun _ h9 => h9) rfl (by decide +kernel) rfl rfl (Nat.le_of_ble_eq_true rfl) dX6_setDispatcher_30 (fun H locs hP hD hS => ?_)
          have hP : va_P D vwCl [(mm, .inr (10, [.int 0, .int 9, .int 0, .int 99, .ref c2, .ref ps2, .ref pr, .int 0, .int 0, .int ((-1)), .ref l2, .long 0]))] _ := hP
          have hD : va_D A [(mm, .inr (10, [.int 0, .int 9, .int 0, .int 99, .ref c2, .ref ps2, .ref pr, .int 0, .int 0, .int ((-1)), .ref l2, .long 0]))] := hD
          refine lv_aload_n hx hb dX6_setDispatcher_33 rfl (lv_at hl 0 rfl) ?_
          refine va_get (D := D) (ci := 10) (v := .int 99) (C := RX6) (T := TX6) (N := 12) hx hb hts hiRX6 hown hK hP 0 rfl rfl 3 (by decide) (hts (.fieldLink RX6 13 "TowerliftryModel" "dispatcher" "C") (by decide +kernel)) (fun _ h9 => h9) rfl dX6_setDispatcher_34 ?_
          refine lv_istore_n (lv' := [(2, .int 99), (0, .ref mm), (1, .int p0)]) hx hb dX6_setDispatcher_37 rfl hl (by decide) rfl (fun ls hl => ?_)
          refine lv_aload_n hx hb dX6_setDispatcher_38 rfl (lv_at hl 1 rfl) ?_
          refine va_get (D := D) (ci := 10) (v := .int 0) (C := RX6) (T := TX6) (N := 12) hx hb hts hiRX6 hown hK hP 0 rfl rfl 0 (by decide) (hts (.fieldLink RX6 38 "TowerliftryModel" "thrown" "I") (by decide +kernel)) (fun _ h9 => h9) rfl dX6_setDispatcher_39 ?_
          refine lv_if_ne (tgt := 50) hx hb dX6_setDispatcher_42 (by decide) (fun c9 => absurd c9 (by decide)) (fun c9 => ?_)
          refine lv_aload_n hx hb dX6_setDispatcher_45 rfl (lv_at hl 1 rfl) ?_
          refine lv_iload_n hx hb dX6_setDispatcher_46 rfl (lv_at hl 2 rfl) ?_
          refine va_put (D := D) (ci := 10) (v := .int p0) (ty := .char) (C := RX6) (T := TX6) (N := 12) hx hb hts hiRX6 tyX6 tyX6_ok nmX6 hown hK hP hD hS 0 rfl rfl 3 (by decide) (hts (.fieldLink RX6 13 "TowerliftryModel" "dispatcher" "C") (by decide +kernel)) (fun _ h9 => h9) rfl (by decide +kernel) hn0.1 hn0.2 (Nat.le_of_ble_eq_true rfl) dX6_setDispatcher_47 (fun H locs hP hD hS => ?_)
          have hP : va_P D vwCl [(mm, .inr (10, [.int 0, .int 9, .int 0, .int p0, .ref c2, .ref ps2, .ref pr, .int 0, .int 0, .int ((-1)), .ref l2, .long 0]))] _ := hP
          have hD : va_D A [(mm, .inr (10, [.int 0, .int 9, .int 0, .int p0, .ref c2, .ref ps2, .ref pr, .int 0, .int 0, .int ((-1)), .ref l2, .long 0]))] := hD
          refine lv_iload_n hx hb dX6_setDispatcher_50 rfl (lv_at hl 0 rfl) ?_
          refine W.widen (k := 0) (n := 0) (Nat.le_of_ble_eq_true rfl) (Nat.le_of_ble_eq_true rfl) ?_
          have hP9 := hP.sub (ws' := [(mm, .inr (10, [.int 0, .int 9, .int 0, .int p0, .ref c2, .ref ps2, .ref pr, .int 0, .int 0, .int ((-1)), .ref l2, .long 0]))]) [0] rfl
          have hD9 := hD.sub (ws' := [(mm, .inr (10, [.int 0, .int 9, .int 0, .int p0, .ref c2, .ref ps2, .ref pr, .int 0, .int 0, .int ((-1)), .ref l2, .long 0]))]) [0] (by decide) rfl
          have hK9 := hK.sub (tys' := []) [] rfl
          exact W.zret (v := 99) (ty := .char) hx hb hr (by decide) (fun t ht hW => ⟨⟨99, ([(mm, .inr (10, [.int 0, .int 9, .int 0, .int p0, .ref c2, .ref ps2, .ref pr, .int 0, .int 0, .int ((-1)), .ref l2, .long 0]))], []), rfl, (Or.inl ⟨(Or.inr (Or.inr (Or.inr (⟨c_1, c_2, c_3, c_4⟩)))), rfl, rfl⟩), by rw [ht]; exact hP9, va_K.moved hW.alike hK9, hD9⟩, hS.F ht⟩) hS.2.2 dX6_setDispatcher_51
set_option maxHeartbeats 4000000 in
set_option maxRecDepth 100000 in
theorem c_X6_come (l : Launch) (hst : l.stackTraces = false) (em kw kb : Nat) (D : va_G) (mm : Nat) (p0 : Int32) (p1 : Int32) (p2 : Int32) (p3 : Int32) (p4 : Int32) (c2 : Nat) (ps2 : Nat) (pr : Nat) (l2 : Nat) (sz : Nat) : Met l yX6_come wsX6_come ({ frames := 5, cells := 2, slots := 18, locals := 101 }) (va_Pc [.ref mm, .int p0, .int p1, .int p2, .int p3, .int p4] (tw_Pre em kw kb D sz [(mm, .inr (10, [.int 0, .int 9, .int 0, .int 99, .ref c2, .ref ps2, .ref pr, .int 0, .int 0, .int ((-1)), .ref l2, .long 0])), (ps2, .inr (3, [.int 0, .ref em, .int 0]))] [])) (va_Qi (fun (r : Int32) (u : tw_U) => (((((p0 < 0) ∨ (¬ p0 < 0 ∧ 9 < p0))) ∨ ((¬ p0 < 0 ∧ ¬ 9 < p0) ∧ ((p1 < 0) ∨ (¬ p1 < 0 ∧ 9 < p1))) ∨ ((¬ p0 < 0 ∧ ¬ 9 < p0) ∧ (¬ p1 < 0 ∧ ¬ 9 < p1) ∧ p0 = p1) ∨ ((¬ p0 < 0 ∧ ¬ 9 < p0) ∧ (¬ p1 < 0 ∧ ¬ 9 < p1) ∧ ¬ p0 = p1 ∧ ((p2 < 10) ∨ (¬ p2 < 10 ∧ 200 < p2))) ∨ ((¬ p0 < 0 ∧ ¬ 9 < p0) ∧ (¬ p1 < 0 ∧ ¬ 9 < p1) ∧ ¬ p0 = p1 ∧ (¬ p2 < 10 ∧ ¬ 200 < p2) ∧ ((p3 < 1) ∨ (¬ p3 < 1 ∧ 999 < p3))) ∨ ((¬ p0 < 0 ∧ ¬ 9 < p0) ∧ (¬ p1 < 0 ∧ ¬ 9 < p1) ∧ ¬ p0 = p1 ∧ (¬ p2 < 10 ∧ ¬ 200 < p2) ∧ (¬ p3 < 1 ∧ ¬ 999 < p3) ∧ ¬ 0 ≤ p4)) ∧ r = 0 ∧ u = ([(mm, .inr (10, [.int 1, .int 9, .int 0, .int 99, .ref c2, .ref ps2, .ref pr, .int 0, .int 0, .int ((-1)), .ref l2, .long 0]))], [])) ∨ ((((¬ p0 < 0 ∧ ¬ 9 < p0) ∧ (¬ p1 < 0 ∧ ¬ 9 < p1) ∧ ¬ p0 = p1 ∧ (¬ p2 < 10 ∧ ¬ 200 < p2) ∧ (¬ p3 < 1 ∧ ¬ 999 < p3) ∧ 0 ≤ p4 ∧ ¬ ((p4 >>> (p1 &&& 31)) &&& (1 : Int32)) = 1) ∨ ((¬ p0 < 0 ∧ ¬ 9 < p0) ∧ (¬ p1 < 0 ∧ ¬ 9 < p1) ∧ ¬ p0 = p1 ∧ (¬ p2 < 10 ∧ ¬ 200 < p2) ∧ (¬ p3 < 1 ∧ ¬ 999 < p3) ∧ 0 ≤ p4 ∧ ((p4 >>> (p1 &&& 31)) &&& (1 : Int32)) = 1)) ∧ r = 0 ∧ u = ([(mm, .inr (10, [.int 0, .int 9, .int 0, .int 99, .ref c2, .ref ps2, .ref pr, .int 0, .int 0, .int ((-1)), .ref l2, .long 0]))], []))) (tw_B D (va_A [(mm, .inr (10, [.int 0, .int 9, .int 0, .int 99, .ref c2, .ref ps2, .ref pr, .int 0, .int 0, .int ((-1)), .ref l2, .long 0])), (ps2, .inr (3, [.int 0, .ref em, .int 0]))] sz)) (va_A [(mm, .inr (10, [.int 0, .int 9, .int 0, .int 99, .ref c2, .ref ps2, .ref pr, .int 0, .int 0, .int ((-1)), .ref l2, .long 0])), (ps2, .inr (3, [.int 0, .ref em, .int 0]))] sz)) 2 18 (va_A [(mm, .inr (10, [.int 0, .int 9, .int 0, .int 99, .ref c2, .ref ps2, .ref pr, .int 0, .int 0, .int ((-1)), .ref l2, .long 0])), (ps2, .inr (3, [.int 0, .ref em, .int 0]))] sz) := by
  refine Met.ofW (cc := cX6_come) (maxL := 7) (ret := (some .int)) (by decide) rfl ?_
  intro p e s m args below meth c s₁ B hml hv
  obtain ⟨rfl, hsz, hP, hK, hD0, hF⟩ := hv
  have hx := B.exec
  have hb := B.bytes
  have hr := B.returns
  have hts := atoms_spec (ws := wsX6_come) B.pre
  have hown : s.vm.findClass RX6 = some m.cls := findClass_of_methodNamed B.named
  have hlocks := B.notSynchronized
  have hiRX6 : ∀ w ∈ u_ws RX6 TX6 12, w ∈ wsX6_come := by decide +kernel
  have hiRX5 : ∀ w ∈ u_ws RX5 TX5 8, w ∈ wsX6_come := by decide +kernel
  subst hsz
  have hD := hD0.self (sz := s.heap.size)
  generalize hAe : va_A [(mm, .inr (10, [.int 0, .int 9, .int 0, .int 99, .ref c2, .ref ps2, .ref pr, .int 0, .int 0, .int ((-1)), .ref l2, .long 0])), (ps2, .inr (3, [.int 0, .ref em, .int 0]))] s.heap.size = A at hD hF ⊢
  have hA : ∀ q : Nat, s.heap.size ≤ q → A q := fun q h => by rw [← hAe]; exact Or.inr h
  have hS : va_S A s.heap s.heap [] := va_S.rf
  have hP : va_P D vwCl [(mm, .inr (10, [.int 0, .int 9, .int 0, .int 99, .ref c2, .ref ps2, .ref pr, .int 0, .int 0, .int ((-1)), .ref l2, .long 0])), (ps2, .inr (3, [.int 0, .ref em, .int 0]))] s.heap := hP
  have hl := lv_entry ([.ref mm, .int p0, .int p1, .int p2, .int p3, .int p4]) (n := 7) (Nat.le_of_ble_eq_true rfl)
  rw [lg_entry_eq]
  generalize (lg_sl ([.ref mm, .int p0, .int p1, .int p2, .int p3, .int p4]) ++ List.replicate (7 - (lg_sl ([.ref mm, .int p0, .int p1, .int p2, .int p3, .int p4])).length) Slot.unset).toArray = ls at hl ⊢
  have hl : lv_has ls 7 [(0, .ref mm), (1, .int p0), (2, .int p1), (3, .int p2), (4, .int p3), (5, .int p4)] := hl
  refine lv_aload_n hx hb dX6_come_0 rfl (lv_at hl 0 rfl) ?_
  refine lv_iload_n hx hb dX6_come_1 rfl (lv_at hl 1 rfl) ?_
  have hPc := hP.sub (ws' := [(mm, .inr (10, [.int 0, .int 9, .int 0, .int 99, .ref c2, .ref ps2, .ref pr, .int 0, .int 0, .int ((-1)), .ref l2, .long 0]))]) [0] rfl
  have hDc := hD.sub (ws' := [(mm, .inr (10, [.int 0, .int 9, .int 0, .int 99, .ref c2, .ref ps2, .ref pr, .int 0, .int 0, .int ((-1)), .ref l2, .long 0]))]) [0] (by decide) rfl
  have hKc := hK.sub (tys' := []) [] rfl
  have hFc := va_free (wc := [(mm, .inr (10, [.int 0, .int 9, .int 0, .int 99, .ref c2, .ref ps2, .ref pr, .int 0, .int 0, .int ((-1)), .ref l2, .long 0]))]) hD hS hA [0] rfl
  refine va_calli (va_runV (As := [.int p0]) (rest := []) ⟨hx, hb, hml, hown, hts⟩ (c_X6_isFloor l hst em kw kb D mm p0 c2 ps2 pr l2 _) (cwV 1 hts gX6_come_X6_isFloor rfl rfl rfl (by decide +kernel) ⟨(Nat.le_of_ble_eq_true rfl), (Nat.le_of_ble_eq_true rfl)⟩) (tw_preV hF hS hFc hPc hKc hDc (va_recv hKc hPc (ci := 10) (q0 := 0) rfl rfl)) rfl rfl hl.1 rfl (lv_room (Nat.le_of_ble_eq_true rfl)) dX6_come_2 ⟨(Nat.le_of_ble_eq_true rfl), (Nat.le_of_ble_eq_true rfl)⟩) hS (fun q _ h => hFc q h) hFc (fun r u t H locs ht hvm hw hB hz1 hk1 hS => ?_)
  rcases hw with hw | hw
  · obtain ⟨g_1, rfl, rfl⟩ := hw
    obtain ⟨hP, hD, hK⟩ := tw_join (wr := [(ps2, .inr (3, [.int 0, .ref em, .int 0]))]) hP hD hK [0] [1] rfl rfl (by decide) (by decide) hk1 hFc ht hvm hB
    have hP : va_P D vwCl [(ps2, .inr (3, [.int 0, .ref em, .int 0])), (mm, .inr (10, [.int 0, .int 9, .int 0, .int 99, .ref c2, .ref ps2, .ref pr, .int 0, .int 0, .int ((-1)), .ref l2, .long 0]))] _ := hP
    have hD : va_D A [(ps2, .inr (3, [.int 0, .ref em, .int 0])), (mm, .inr (10, [.int 0, .int 9, .int 0, .int 99, .ref c2, .ref ps2, .ref pr, .int 0, .int 0, .int ((-1)), .ref l2, .long 0]))] := hD
    have hK : va_K D vwCl [] s := hK
    refine W.widen (k := 0) (n := 0) (Nat.le_refl _) (Nat.le_refl _) ?_
    refine W.eq (g2 := F0 m 5 ls [.int 0]) rfl ?_
    refine lv_if_eq (tgt := 50) hx hb dX6_come_5 (by decide) (fun c9 => ?_) (fun c9 => absurd c9 (by decide))
    refine lv_aload_n hx hb dX6_come_50 rfl (lv_at hl 0 rfl) ?_
    refine lv_iconst (v := 1) hx hb dX6_come_51 (by decide) ?_
    have hPc := hP.sub (ws' := [(mm, .inr (10, [.int 0, .int 9, .int 0, .int 99, .ref c2, .ref ps2, .ref pr, .int 0, .int 0, .int ((-1)), .ref l2, .long 0]))]) [1] rfl
    have hDc := hD.sub (ws' := [(mm, .inr (10, [.int 0, .int 9, .int 0, .int 99, .ref c2, .ref ps2, .ref pr, .int 0, .int 0, .int ((-1)), .ref l2, .long 0]))]) [1] (by decide) rfl
    have hKc := hK.sub (tys' := []) [] rfl
    have hFc := va_free (wc := [(mm, .inr (10, [.int 0, .int 9, .int 0, .int 99, .ref c2, .ref ps2, .ref pr, .int 0, .int 0, .int ((-1)), .ref l2, .long 0]))]) hD hS hA [1] rfl
    refine va_calli (va_runV (As := [.int 1]) (rest := []) ⟨hx, hb, hml, hown, hts⟩ (c_X6_fails l hst em kw kb D mm 1 0 9 0 99 c2 ps2 pr 0 0 ((-1)) l2 0 _) (cwV 1 hts gX6_come_X6_fails rfl rfl rfl (by decide +kernel) ⟨(Nat.le_of_ble_eq_true rfl), (Nat.le_of_ble_eq_true rfl)⟩) (tw_preV hF hS hFc hPc hKc hDc (va_recv hKc hPc (ci := 10) (q0 := 0) rfl rfl)) rfl rfl hl.1 rfl (lv_room (Nat.le_of_ble_eq_true rfl)) dX6_come_52 ⟨(Nat.le_of_ble_eq_true rfl), (Nat.le_of_ble_eq_true rfl)⟩) hS (fun q _ h => hFc q h) hFc (fun r u t H locs ht hvm hw hB hz1 hk1 hS => ?_)
    obtain ⟨rfl, rfl⟩ := hw
    obtain ⟨hP, hD, hK⟩ := tw_join (wr := [(ps2, .inr (3, [.int 0, .ref em, .int 0]))]) hP hD hK [1] [0] rfl rfl (by decide) (by decide) hk1 hFc ht hvm hB
    have hP : va_P D vwCl [(ps2, .inr (3, [.int 0, .ref em, .int 0])), (mm, .inr (10, [.int 1, .int 9, .int 0, .int 99, .ref c2, .ref ps2, .ref pr, .int 0, .int 0, .int ((-1)), .ref l2, .long 0]))] _ := hP
    have hD : va_D A [(ps2, .inr (3, [.int 0, .ref em, .int 0])), (mm, .inr (10, [.int 1, .int 9, .int 0, .int 99, .ref c2, .ref ps2, .ref pr, .int 0, .int 0, .int ((-1)), .ref l2, .long 0]))] := hD
    have hK : va_K D vwCl [] s := hK
    refine W.widen (k := 0) (n := 0) (Nat.le_refl _) (Nat.le_refl _) ?_
    refine W.eq (g2 := F0 m 55 ls [.int 0]) rfl ?_
    refine W.widen (k := 2) (n := 18) (Nat.le_of_ble_eq_true rfl) (Nat.le_of_ble_eq_true rfl) ?_
    have hP9 := hP.sub (ws' := [(mm, .inr (10, [.int 1, .int 9, .int 0, .int 99, .ref c2, .ref ps2, .ref pr, .int 0, .int 0, .int ((-1)), .ref l2, .long 0]))]) [1] rfl
    have hD9 := hD.sub (ws' := [(mm, .inr (10, [.int 1, .int 9, .int 0, .int 99, .ref c2, .ref ps2, .ref pr, .int 0, .int 0, .int ((-1)), .ref l2, .long 0]))]) [1] (by decide) rfl
    have hK9 := hK.sub (tys' := []) [] rfl
    exact W.iret (v := 0) hx hb hr (fun t ht hW => ⟨⟨0, ([(mm, .inr (10, [.int 1, .int 9, .int 0, .int 99, .ref c2, .ref ps2, .ref pr, .int 0, .int 0, .int ((-1)), .ref l2, .long 0]))], []), rfl, (Or.inl ⟨(Or.inl g_1), rfl, rfl⟩), by rw [ht]; exact hP9, va_K.moved hW.alike hK9, hD9⟩, hS.F ht⟩) hS.2.2 dX6_come_55
  · obtain ⟨g_2, rfl, rfl⟩ := hw
    obtain ⟨hP, hD, hK⟩ := tw_join (wr := [(ps2, .inr (3, [.int 0, .ref em, .int 0]))]) hP hD hK [0] [1] rfl rfl (by decide) (by decide) hk1 hFc ht hvm hB
    have hP : va_P D vwCl [(ps2, .inr (3, [.int 0, .ref em, .int 0])), (mm, .inr (10, [.int 0, .int 9, .int 0, .int 99, .ref c2, .ref ps2, .ref pr, .int 0, .int 0, .int ((-1)), .ref l2, .long 0]))] _ := hP
    have hD : va_D A [(ps2, .inr (3, [.int 0, .ref em, .int 0])), (mm, .inr (10, [.int 0, .int 9, .int 0, .int 99, .ref c2, .ref ps2, .ref pr, .int 0, .int 0, .int ((-1)), .ref l2, .long 0]))] := hD
    have hK : va_K D vwCl [] s := hK
    refine W.widen (k := 0) (n := 0) (Nat.le_refl _) (Nat.le_refl _) ?_
    refine W.eq (g2 := F0 m 5 ls [.int 1]) rfl ?_
    refine lv_if_eq (tgt := 50) hx hb dX6_come_5 (by decide) (fun c9 => absurd c9 (by decide)) (fun c9 => ?_)
    refine lv_aload_n hx hb dX6_come_8 rfl (lv_at hl 0 rfl) ?_
    refine lv_iload_n hx hb dX6_come_9 rfl (lv_at hl 2 rfl) ?_
    have hPc := hP.sub (ws' := [(mm, .inr (10, [.int 0, .int 9, .int 0, .int 99, .ref c2, .ref ps2, .ref pr, .int 0, .int 0, .int ((-1)), .ref l2, .long 0]))]) [1] rfl
    have hDc := hD.sub (ws' := [(mm, .inr (10, [.int 0, .int 9, .int 0, .int 99, .ref c2, .ref ps2, .ref pr, .int 0, .int 0, .int ((-1)), .ref l2, .long 0]))]) [1] (by decide) rfl
    have hKc := hK.sub (tys' := []) [] rfl
    have hFc := va_free (wc := [(mm, .inr (10, [.int 0, .int 9, .int 0, .int 99, .ref c2, .ref ps2, .ref pr, .int 0, .int 0, .int ((-1)), .ref l2, .long 0]))]) hD hS hA [1] rfl
    refine va_calli (va_runV (As := [.int p1]) (rest := []) ⟨hx, hb, hml, hown, hts⟩ (c_X6_isFloor l hst em kw kb D mm p1 c2 ps2 pr l2 _) (cwV 1 hts gX6_come_X6_isFloor rfl rfl rfl (by decide +kernel) ⟨(Nat.le_of_ble_eq_true rfl), (Nat.le_of_ble_eq_true rfl)⟩) (tw_preV hF hS hFc hPc hKc hDc (va_recv hKc hPc (ci := 10) (q0 := 0) rfl rfl)) rfl rfl hl.1 rfl (lv_room (Nat.le_of_ble_eq_true rfl)) dX6_come_10 ⟨(Nat.le_of_ble_eq_true rfl), (Nat.le_of_ble_eq_true rfl)⟩) hS (fun q _ h => hFc q h) hFc (fun r u t H locs ht hvm hw hB hz1 hk1 hS => ?_)
    rcases hw with hw | hw
    · obtain ⟨g_3, rfl, rfl⟩ := hw
      obtain ⟨hP, hD, hK⟩ := tw_join (wr := [(ps2, .inr (3, [.int 0, .ref em, .int 0]))]) hP hD hK [1] [0] rfl rfl (by decide) (by decide) hk1 hFc ht hvm hB
      have hP : va_P D vwCl [(ps2, .inr (3, [.int 0, .ref em, .int 0])), (mm, .inr (10, [.int 0, .int 9, .int 0, .int 99, .ref c2, .ref ps2, .ref pr, .int 0, .int 0, .int ((-1)), .ref l2, .long 0]))] _ := hP
      have hD : va_D A [(ps2, .inr (3, [.int 0, .ref em, .int 0])), (mm, .inr (10, [.int 0, .int 9, .int 0, .int 99, .ref c2, .ref ps2, .ref pr, .int 0, .int 0, .int ((-1)), .ref l2, .long 0]))] := hD
      have hK : va_K D vwCl [] s := hK
      refine W.widen (k := 0) (n := 0) (Nat.le_refl _) (Nat.le_refl _) ?_
      refine W.eq (g2 := F0 m 13 ls [.int 0]) rfl ?_
      refine lv_if_eq (tgt := 50) hx hb dX6_come_13 (by decide) (fun c9 => ?_) (fun c9 => absurd c9 (by decide))
      refine lv_aload_n hx hb dX6_come_50 rfl (lv_at hl 0 rfl) ?_
      refine lv_iconst (v := 1) hx hb dX6_come_51 (by decide) ?_
      have hPc := hP.sub (ws' := [(mm, .inr (10, [.int 0, .int 9, .int 0, .int 99, .ref c2, .ref ps2, .ref pr, .int 0, .int 0, .int ((-1)), .ref l2, .long 0]))]) [1] rfl
      have hDc := hD.sub (ws' := [(mm, .inr (10, [.int 0, .int 9, .int 0, .int 99, .ref c2, .ref ps2, .ref pr, .int 0, .int 0, .int ((-1)), .ref l2, .long 0]))]) [1] (by decide) rfl
      have hKc := hK.sub (tys' := []) [] rfl
      have hFc := va_free (wc := [(mm, .inr (10, [.int 0, .int 9, .int 0, .int 99, .ref c2, .ref ps2, .ref pr, .int 0, .int 0, .int ((-1)), .ref l2, .long 0]))]) hD hS hA [1] rfl
      refine va_calli (va_runV (As := [.int 1]) (rest := []) ⟨hx, hb, hml, hown, hts⟩ (c_X6_fails l hst em kw kb D mm 1 0 9 0 99 c2 ps2 pr 0 0 ((-1)) l2 0 _) (cwV 1 hts gX6_come_X6_fails rfl rfl rfl (by decide +kernel) ⟨(Nat.le_of_ble_eq_true rfl), (Nat.le_of_ble_eq_true rfl)⟩) (tw_preV hF hS hFc hPc hKc hDc (va_recv hKc hPc (ci := 10) (q0 := 0) rfl rfl)) rfl rfl hl.1 rfl (lv_room (Nat.le_of_ble_eq_true rfl)) dX6_come_52 ⟨(Nat.le_of_ble_eq_true rfl), (Nat.le_of_ble_eq_true rfl)⟩) hS (fun q _ h => hFc q h) hFc (fun r u t H locs ht hvm hw hB hz1 hk1 hS => ?_)
      obtain ⟨rfl, rfl⟩ := hw
      obtain ⟨hP, hD, hK⟩ := tw_join (wr := [(ps2, .inr (3, [.int 0, .ref em, .int 0]))]) hP hD hK [1] [0] rfl rfl (by decide) (by decide) hk1 hFc ht hvm hB
      have hP : va_P D vwCl [(ps2, .inr (3, [.int 0, .ref em, .int 0])), (mm, .inr (10, [.int 1, .int 9, .int 0, .int 99, .ref c2, .ref ps2, .ref pr, .int 0, .int 0, .int ((-1)), .ref l2, .long 0]))] _ := hP
      have hD : va_D A [(ps2, .inr (3, [.int 0, .ref em, .int 0])), (mm, .inr (10, [.int 1, .int 9, .int 0, .int 99, .ref c2, .ref ps2, .ref pr, .int 0, .int 0, .int ((-1)), .ref l2, .long 0]))] := hD
      have hK : va_K D vwCl [] s := hK
      refine W.widen (k := 0) (n := 0) (Nat.le_refl _) (Nat.le_refl _) ?_
      refine W.eq (g2 := F0 m 55 ls [.int 0]) rfl ?_
      refine W.widen (k := 2) (n := 18) (Nat.le_of_ble_eq_true rfl) (Nat.le_of_ble_eq_true rfl) ?_
      have hP9 := hP.sub (ws' := [(mm, .inr (10, [.int 1, .int 9, .int 0, .int 99, .ref c2, .ref ps2, .ref pr, .int 0, .int 0, .int ((-1)), .ref l2, .long 0]))]) [1] rfl
      have hD9 := hD.sub (ws' := [(mm, .inr (10, [.int 1, .int 9, .int 0, .int 99, .ref c2, .ref ps2, .ref pr, .int 0, .int 0, .int ((-1)), .ref l2, .long 0]))]) [1] (by decide) rfl
      have hK9 := hK.sub (tys' := []) [] rfl
      exact W.iret (v := 0) hx hb hr (fun t ht hW => ⟨⟨0, ([(mm, .inr (10, [.int 1, .int 9, .int 0, .int 99, .ref c2, .ref ps2, .ref pr, .int 0, .int 0, .int ((-1)), .ref l2, .long 0]))], []), rfl, (Or.inl ⟨(Or.inr (Or.inl ⟨g_2, g_3⟩)), rfl, rfl⟩), by rw [ht]; exact hP9, va_K.moved hW.alike hK9, hD9⟩, hS.F ht⟩) hS.2.2 dX6_come_55
    · obtain ⟨g_4, rfl, rfl⟩ := hw
      obtain ⟨hP, hD, hK⟩ := tw_join (wr := [(ps2, .inr (3, [.int 0, .ref em, .int 0]))]) hP hD hK [1] [0] rfl rfl (by decide) (by decide) hk1 hFc ht hvm hB
      have hP : va_P D vwCl [(ps2, .inr (3, [.int 0, .ref em, .int 0])), (mm, .inr (10, [.int 0, .int 9, .int 0, .int 99, .ref c2, .ref ps2, .ref pr, .int 0, .int 0, .int ((-1)), .ref l2, .long 0]))] _ := hP
      have hD : va_D A [(ps2, .inr (3, [.int 0, .ref em, .int 0])), (mm, .inr (10, [.int 0, .int 9, .int 0, .int 99, .ref c2, .ref ps2, .ref pr, .int 0, .int 0, .int ((-1)), .ref l2, .long 0]))] := hD
      have hK : va_K D vwCl [] s := hK
      refine W.widen (k := 0) (n := 0) (Nat.le_refl _) (Nat.le_refl _) ?_
      refine W.eq (g2 := F0 m 13 ls [.int 1]) rfl ?_
      refine lv_if_eq (tgt := 50) hx hb dX6_come_13 (by decide) (fun c9 => absurd c9 (by decide)) (fun c9 => ?_)
      refine lv_iload_n hx hb dX6_come_16 rfl (lv_at hl 1 rfl) ?_
      refine lv_iload_n hx hb dX6_come_17 rfl (lv_at hl 2 rfl) ?_
      refine lv_icmp_eq (tgt := 50) hx hb dX6_come_18 (by decide) (fun c_5 => ?_) (fun c_5 => ?_)
      · refine lv_aload_n hx hb dX6_come_50 rfl (lv_at hl 0 rfl) ?_
        refine lv_iconst (v := 1) hx hb dX6_come_51 (by decide) ?_
        have hPc := hP.sub (ws' := [(mm, .inr (10, [.int 0, .int 9, .int 0, .int 99, .ref c2, .ref ps2, .ref pr, .int 0, .int 0, .int ((-1)), .ref l2, .long 0]))]) [1] rfl
        have hDc := hD.sub (ws' := [(mm, .inr (10, [.int 0, .int 9, .int 0, .int 99, .ref c2, .ref ps2, .ref pr, .int 0, .int 0, .int ((-1)), .ref l2, .long 0]))]) [1] (by decide) rfl
        have hKc := hK.sub (tys' := []) [] rfl
        have hFc := va_free (wc := [(mm, .inr (10, [.int 0, .int 9, .int 0, .int 99, .ref c2, .ref ps2, .ref pr, .int 0, .int 0, .int ((-1)), .ref l2, .long 0]))]) hD hS hA [1] rfl
        refine va_calli (va_runV (As := [.int 1]) (rest := []) ⟨hx, hb, hml, hown, hts⟩ (c_X6_fails l hst em kw kb D mm 1 0 9 0 99 c2 ps2 pr 0 0 ((-1)) l2 0 _) (cwV 1 hts gX6_come_X6_fails rfl rfl rfl (by decide +kernel) ⟨(Nat.le_of_ble_eq_true rfl), (Nat.le_of_ble_eq_true rfl)⟩) (tw_preV hF hS hFc hPc hKc hDc (va_recv hKc hPc (ci := 10) (q0 := 0) rfl rfl)) rfl rfl hl.1 rfl (lv_room (Nat.le_of_ble_eq_true rfl)) dX6_come_52 ⟨(Nat.le_of_ble_eq_true rfl), (Nat.le_of_ble_eq_true rfl)⟩) hS (fun q _ h => hFc q h) hFc (fun r u t H locs ht hvm hw hB hz1 hk1 hS => ?_)
        obtain ⟨rfl, rfl⟩ := hw
        obtain ⟨hP, hD, hK⟩ := tw_join (wr := [(ps2, .inr (3, [.int 0, .ref em, .int 0]))]) hP hD hK [1] [0] rfl rfl (by decide) (by decide) hk1 hFc ht hvm hB
        have hP : va_P D vwCl [(ps2, .inr (3, [.int 0, .ref em, .int 0])), (mm, .inr (10, [.int 1, .int 9, .int 0, .int 99, .ref c2, .ref ps2, .ref pr, .int 0, .int 0, .int ((-1)), .ref l2, .long 0]))] _ := hP
        have hD : va_D A [(ps2, .inr (3, [.int 0, .ref em, .int 0])), (mm, .inr (10, [.int 1, .int 9, .int 0, .int 99, .ref c2, .ref ps2, .ref pr, .int 0, .int 0, .int ((-1)), .ref l2, .long 0]))] := hD
        have hK : va_K D vwCl [] s := hK
        refine W.widen (k := 0) (n := 0) (Nat.le_refl _) (Nat.le_refl _) ?_
        refine W.eq (g2 := F0 m 55 ls [.int 0]) rfl ?_
        refine W.widen (k := 2) (n := 18) (Nat.le_of_ble_eq_true rfl) (Nat.le_of_ble_eq_true rfl) ?_
        have hP9 := hP.sub (ws' := [(mm, .inr (10, [.int 1, .int 9, .int 0, .int 99, .ref c2, .ref ps2, .ref pr, .int 0, .int 0, .int ((-1)), .ref l2, .long 0]))]) [1] rfl
        have hD9 := hD.sub (ws' := [(mm, .inr (10, [.int 1, .int 9, .int 0, .int 99, .ref c2, .ref ps2, .ref pr, .int 0, .int 0, .int ((-1)), .ref l2, .long 0]))]) [1] (by decide) rfl
        have hK9 := hK.sub (tys' := []) [] rfl
        exact W.iret (v := 0) hx hb hr (fun t ht hW => ⟨⟨0, ([(mm, .inr (10, [.int 1, .int 9, .int 0, .int 99, .ref c2, .ref ps2, .ref pr, .int 0, .int 0, .int ((-1)), .ref l2, .long 0]))], []), rfl, (Or.inl ⟨(Or.inr (Or.inr (Or.inl ⟨g_2, g_4, c_5⟩))), rfl, rfl⟩), by rw [ht]; exact hP9, va_K.moved hW.alike hK9, hD9⟩, hS.F ht⟩) hS.2.2 dX6_come_55
      · refine lv_iload_n hx hb dX6_come_21 rfl (lv_at hl 3 rfl) ?_
        refine lv_bipush (v := 10) hx hb dX6_come_22 (by decide) ?_
        refine lv_sipush (v := 200) hx hb dX6_come_24 (by decide) ?_
        have hPc := hP.sub (ws' := []) [] rfl
        have hDc := hD.sub (ws' := []) [] (by decide) rfl
        have hKc := hK.sub (tys' := []) [] rfl
        have hFc := va_free (wc := []) hD hS hA [] rfl
        refine va_calli (va_runS (As := [.int p2, .int 10, .int 200]) (rest := []) ⟨hx, hb, hml, hown, hts⟩ (c_X6_in l hst em kw kb D p2 10 200 _) (va_cwS 3 hts gX6_come_X6_in rfl rfl rfl (by decide +kernel) ⟨(Nat.le_of_ble_eq_true rfl), (Nat.le_of_ble_eq_true rfl)⟩) (tw_preS hF hS hFc hPc hKc hDc) rfl rfl hl.1 rfl (lv_room (Nat.le_of_ble_eq_true rfl)) dX6_come_27 ⟨(Nat.le_of_ble_eq_true rfl), (Nat.le_of_ble_eq_true rfl)⟩) hS (fun q _ h => hFc q h) hFc (fun r u t H locs ht hvm hw hB hz1 hk1 hS => ?_)
        rcases hw with hw | hw
        · obtain ⟨g_6, rfl, rfl⟩ := hw
          obtain ⟨hP, hD, hK⟩ := tw_join (wr := [(ps2, .inr (3, [.int 0, .ref em, .int 0])), (mm, .inr (10, [.int 0, .int 9, .int 0, .int 99, .ref c2, .ref ps2, .ref pr, .int 0, .int 0, .int ((-1)), .ref l2, .long 0]))]) hP hD hK [] [0, 1] rfl rfl (by decide) (by decide) hk1 hFc ht hvm hB
          have hP : va_P D vwCl [(ps2, .inr (3, [.int 0, .ref em, .int 0])), (mm, .inr (10, [.int 0, .int 9, .int 0, .int 99, .ref c2, .ref ps2, .ref pr, .int 0, .int 0, .int ((-1)), .ref l2, .long 0]))] _ := hP
          have hD : va_D A [(ps2, .inr (3, [.int 0, .ref em, .int 0])), (mm, .inr (10, [.int 0, .int 9, .int 0, .int 99, .ref c2, .ref ps2, .ref pr, .int 0, .int 0, .int ((-1)), .ref l2, .long 0]))] := hD
          have hK : va_K D vwCl [] s := hK
          refine W.widen (k := 0) (n := 0) (Nat.le_refl _) (Nat.le_refl _) ?_
          refine W.eq (g2 := F0 m 30 ls [.int 0]) rfl ?_
          refine lv_if_eq (tgt := 50) hx hb dX6_come_30 (by decide) (fun c9 => ?_) (fun c9 => absurd c9 (by decide))
          refine lv_aload_n hx hb dX6_come_50 rfl (lv_at hl 0 rfl) ?_
          refine lv_iconst (v := 1) hx hb dX6_come_51 (by decide) ?_
          have hPc := hP.sub (ws' := [(mm, .inr (10, [.int 0, .int 9, .int 0, .int 99, .ref c2, .ref ps2, .ref pr, .int 0, .int 0, .int ((-1)), .ref l2, .long 0]))]) [1] rfl
          have hDc := hD.sub (ws' := [(mm, .inr (10, [.int 0, .int 9, .int 0, .int 99, .ref c2, .ref ps2, .ref pr, .int 0, .int 0, .int ((-1)), .ref l2, .long 0]))]) [1] (by decide) rfl
          have hKc := hK.sub (tys' := []) [] rfl
          have hFc := va_free (wc := [(mm, .inr (10, [.int 0, .int 9, .int 0, .int 99, .ref c2, .ref ps2, .ref pr, .int 0, .int 0, .int ((-1)), .ref l2, .long 0]))]) hD hS hA [1] rfl
          refine va_calli (va_runV (As := [.int 1]) (rest := []) ⟨hx, hb, hml, hown, hts⟩ (c_X6_fails l hst em kw kb D mm 1 0 9 0 99 c2 ps2 pr 0 0 ((-1)) l2 0 _) (cwV 1 hts gX6_come_X6_fails rfl rfl rfl (by decide +kernel) ⟨(Nat.le_of_ble_eq_true rfl), (Nat.le_of_ble_eq_true rfl)⟩) (tw_preV hF hS hFc hPc hKc hDc (va_recv hKc hPc (ci := 10) (q0 := 0) rfl rfl)) rfl rfl hl.1 rfl (lv_room (Nat.le_of_ble_eq_true rfl)) dX6_come_52 ⟨(Nat.le_of_ble_eq_true rfl), (Nat.le_of_ble_eq_true rfl)⟩) hS (fun q _ h => hFc q h) hFc (fun r u t H locs ht hvm hw hB hz1 hk1 hS => ?_)
          obtain ⟨rfl, rfl⟩ := hw
          obtain ⟨hP, hD, hK⟩ := tw_join (wr := [(ps2, .inr (3, [.int 0, .ref em, .int 0]))]) hP hD hK [1] [0] rfl rfl (by decide) (by decide) hk1 hFc ht hvm hB
          have hP : va_P D vwCl [(ps2, .inr (3, [.int 0, .ref em, .int 0])), (mm, .inr (10, [.int 1, .int 9, .int 0, .int 99, .ref c2, .ref ps2, .ref pr, .int 0, .int 0, .int ((-1)), .ref l2, .long 0]))] _ := hP
          have hD : va_D A [(ps2, .inr (3, [.int 0, .ref em, .int 0])), (mm, .inr (10, [.int 1, .int 9, .int 0, .int 99, .ref c2, .ref ps2, .ref pr, .int 0, .int 0, .int ((-1)), .ref l2, .long 0]))] := hD
          have hK : va_K D vwCl [] s := hK
          refine W.widen (k := 0) (n := 0) (Nat.le_refl _) (Nat.le_refl _) ?_
          refine W.eq (g2 := F0 m 55 ls [.int 0]) rfl ?_
          refine W.widen (k := 2) (n := 18) (Nat.le_of_ble_eq_true rfl) (Nat.le_of_ble_eq_true rfl) ?_
          have hP9 := hP.sub (ws' := [(mm, .inr (10, [.int 1, .int 9, .int 0, .int 99, .ref c2, .ref ps2, .ref pr, .int 0, .int 0, .int ((-1)), .ref l2, .long 0]))]) [1] rfl
          have hD9 := hD.sub (ws' := [(mm, .inr (10, [.int 1, .int 9, .int 0, .int 99, .ref c2, .ref ps2, .ref pr, .int 0, .int 0, .int ((-1)), .ref l2, .long 0]))]) [1] (by decide) rfl
          have hK9 := hK.sub (tys' := []) [] rfl
          exact W.iret (v := 0) hx hb hr (fun t ht hW => ⟨⟨0, ([(mm, .inr (10, [.int 1, .int 9, .int 0, .int 99, .ref c2, .ref ps2, .ref pr, .int 0, .int 0, .int ((-1)), .ref l2, .long 0]))], []), rfl, (Or.inl ⟨(Or.inr (Or.inr (Or.inr (Or.inl ⟨g_2, g_4, c_5, g_6⟩)))), rfl, rfl⟩), by rw [ht]; exact hP9, va_K.moved hW.alike hK9, hD9⟩, hS.F ht⟩) hS.2.2 dX6_come_55
        · obtain ⟨g_7, rfl, rfl⟩ := hw
          obtain ⟨hP, hD, hK⟩ := tw_join (wr := [(ps2, .inr (3, [.int 0, .ref em, .int 0])), (mm, .inr (10, [.int 0, .int 9, .int 0, .int 99, .ref c2, .ref ps2, .ref pr, .int 0, .int 0, .int ((-1)), .ref l2, .long 0]))]) hP hD hK [] [0, 1] rfl rfl (by decide) (by decide) hk1 hFc ht hvm hB
          have hP : va_P D vwCl [(ps2, .inr (3, [.int 0, .ref em, .int 0])), (mm, .inr (10, [.int 0, .int 9, .int 0, .int 99, .ref c2, .ref ps2, .ref pr, .int 0, .int 0, .int ((-1)), .ref l2, .long 0]))] _ := hP
          have hD : va_D A [(ps2, .inr (3, [.int 0, .ref em, .int 0])), (mm, .inr (10, [.int 0, .int 9, .int 0, .int 99, .ref c2, .ref ps2, .ref pr, .int 0, .int 0, .int ((-1)), .ref l2, .long 0]))] := hD
          have hK : va_K D vwCl [] s := hK
          refine W.widen (k := 0) (n := 0) (Nat.le_refl _) (Nat.le_refl _) ?_
          refine W.eq (g2 := F0 m 30 ls [.int 1]) rfl ?_
          refine lv_if_eq (tgt := 50) hx hb dX6_come_30 (by decide) (fun c9 => absurd c9 (by decide)) (fun c9 => ?_)
          refine lv_iload hx hb dX6_come_33 (lv_at hl 4 rfl) ?_
          refine lv_iconst (v := 1) hx hb dX6_come_35 (by decide) ?_
          refine lv_sipush (v := 999) hx hb dX6_come_36 (by decide) ?_
          have hPc := hP.sub (ws' := []) [] rfl
          have hDc := hD.sub (ws' := []) [] (by decide) rfl
          have hKc := hK.sub (tys' := []) [] rfl
          have hFc := va_free (wc := []) hD hS hA [] rfl
          refine va_calli (va_runS (As := [.int p3, .int 1, .int 999]) (rest := []) ⟨hx, hb, hml, hown, hts⟩ (c_X6_in l hst em kw kb D p3 1 999 _) (va_cwS 3 hts gX6_come_X6_in rfl rfl rfl (by decide +kernel) ⟨(Nat.le_of_ble_eq_true rfl), (Nat.le_of_ble_eq_true rfl)⟩) (tw_preS hF hS hFc hPc hKc hDc) rfl rfl hl.1 rfl (lv_room (Nat.le_of_ble_eq_true rfl)) dX6_come_39 ⟨(Nat.le_of_ble_eq_true rfl), (Nat.le_of_ble_eq_true rfl)⟩) hS (fun q _ h => hFc q h) hFc (fun r u t H locs ht hvm hw hB hz1 hk1 hS => ?_)
          rcases hw with hw | hw
          · obtain ⟨g_8, rfl, rfl⟩ := hw
            obtain ⟨hP, hD, hK⟩ := tw_join (wr := [(ps2, .inr (3, [.int 0, .ref em, .int 0])), (mm, .inr (10, [.int 0, .int 9, .int 0, .int 99, .ref c2, .ref ps2, .ref pr, .int 0, .int 0, .int ((-1)), .ref l2, .long 0]))]) hP hD hK [] [0, 1] rfl rfl (by decide) (by decide) hk1 hFc ht hvm hB
            have hP : va_P D vwCl [(ps2, .inr (3, [.int 0, .ref em, .int 0])), (mm, .inr (10, [.int 0, .int 9, .int 0, .int 99, .ref c2, .ref ps2, .ref pr, .int 0, .int 0, .int ((-1)), .ref l2, .long 0]))] _ := hP
            have hD : va_D A [(ps2, .inr (3, [.int 0, .ref em, .int 0])), (mm, .inr (10, [.int 0, .int 9, .int 0, .int 99, .ref c2, .ref ps2, .ref pr, .int 0, .int 0, .int ((-1)), .ref l2, .long 0]))] := hD
            have hK : va_K D vwCl [] s := hK
            refine W.widen (k := 0) (n := 0) (Nat.le_refl _) (Nat.le_refl _) ?_
            refine W.eq (g2 := F0 m 42 ls [.int 0]) rfl ?_
            refine lv_if_eq (tgt := 50) hx hb dX6_come_42 (by decide) (fun c9 => ?_) (fun c9 => absurd c9 (by decide))
            refine lv_aload_n hx hb dX6_come_50 rfl (lv_at hl 0 rfl) ?_
            refine lv_iconst (v := 1) hx hb dX6_come_51 (by decide) ?_
            have hPc := hP.sub (ws' := [(mm, .inr (10, [.int 0, .int 9, .int 0, .int 99, .ref c2, .ref ps2, .ref pr, .int 0, .int 0, .int ((-1)), .ref l2, .long 0]))]) [1] rfl
            have hDc := hD.sub (ws' := [(mm, .inr (10, [.int 0, .int 9, .int 0, .int 99, .ref c2, .ref ps2, .ref pr, .int 0, .int 0, .int ((-1)), .ref l2, .long 0]))]) [1] (by decide) rfl
            have hKc := hK.sub (tys' := []) [] rfl
            have hFc := va_free (wc := [(mm, .inr (10, [.int 0, .int 9, .int 0, .int 99, .ref c2, .ref ps2, .ref pr, .int 0, .int 0, .int ((-1)), .ref l2, .long 0]))]) hD hS hA [1] rfl
            refine va_calli (va_runV (As := [.int 1]) (rest := []) ⟨hx, hb, hml, hown, hts⟩ (c_X6_fails l hst em kw kb D mm 1 0 9 0 99 c2 ps2 pr 0 0 ((-1)) l2 0 _) (cwV 1 hts gX6_come_X6_fails rfl rfl rfl (by decide +kernel) ⟨(Nat.le_of_ble_eq_true rfl), (Nat.le_of_ble_eq_true rfl)⟩) (tw_preV hF hS hFc hPc hKc hDc (va_recv hKc hPc (ci := 10) (q0 := 0) rfl rfl)) rfl rfl hl.1 rfl (lv_room (Nat.le_of_ble_eq_true rfl)) dX6_come_52 ⟨(Nat.le_of_ble_eq_true rfl), (Nat.le_of_ble_eq_true rfl)⟩) hS (fun q _ h => hFc q h) hFc (fun r u t H locs ht hvm hw hB hz1 hk1 hS => ?_)
            obtain ⟨rfl, rfl⟩ := hw
            obtain ⟨hP, hD, hK⟩ := tw_join (wr := [(ps2, .inr (3, [.int 0, .ref em, .int 0]))]) hP hD hK [1] [0] rfl rfl (by decide) (by decide) hk1 hFc ht hvm hB
            have hP : va_P D vwCl [(ps2, .inr (3, [.int 0, .ref em, .int 0])), (mm, .inr (10, [.int 1, .int 9, .int 0, .int 99, .ref c2, .ref ps2, .ref pr, .int 0, .int 0, .int ((-1)), .ref l2, .long 0]))] _ := hP
            have hD : va_D A [(ps2, .inr (3, [.int 0, .ref em, .int 0])), (mm, .inr (10, [.int 1, .int 9, .int 0, .int 99, .ref c2, .ref ps2, .ref pr, .int 0, .int 0, .int ((-1)), .ref l2, .long 0]))] := hD
            have hK : va_K D vwCl [] s := hK
            refine W.widen (k := 0) (n := 0) (Nat.le_refl _) (Nat.le_refl _) ?_
            refine W.eq (g2 := F0 m 55 ls [.int 0]) rfl ?_
            refine W.widen (k := 2) (n := 18) (Nat.le_of_ble_eq_true rfl) (Nat.le_of_ble_eq_true rfl) ?_
            have hP9 := hP.sub (ws' := [(mm, .inr (10, [.int 1, .int 9, .int 0, .int 99, .ref c2, .ref ps2, .ref pr, .int 0, .int 0, .int ((-1)), .ref l2, .long 0]))]) [1] rfl
            have hD9 := hD.sub (ws' := [(mm, .inr (10, [.int 1, .int 9, .int 0, .int 99, .ref c2, .ref ps2, .ref pr, .int 0, .int 0, .int ((-1)), .ref l2, .long 0]))]) [1] (by decide) rfl
            have hK9 := hK.sub (tys' := []) [] rfl
            exact W.iret (v := 0) hx hb hr (fun t ht hW => ⟨⟨0, ([(mm, .inr (10, [.int 1, .int 9, .int 0, .int 99, .ref c2, .ref ps2, .ref pr, .int 0, .int 0, .int ((-1)), .ref l2, .long 0]))], []), rfl, (Or.inl ⟨(Or.inr (Or.inr (Or.inr (Or.inr (Or.inl ⟨g_2, g_4, c_5, g_7, g_8⟩))))), rfl, rfl⟩), by rw [ht]; exact hP9, va_K.moved hW.alike hK9, hD9⟩, hS.F ht⟩) hS.2.2 dX6_come_55
          · obtain ⟨g_9, rfl, rfl⟩ := hw
            obtain ⟨hP, hD, hK⟩ := tw_join (wr := [(ps2, .inr (3, [.int 0, .ref em, .int 0])), (mm, .inr (10, [.int 0, .int 9, .int 0, .int 99, .ref c2, .ref ps2, .ref pr, .int 0, .int 0, .int ((-1)), .ref l2, .long 0]))]) hP hD hK [] [0, 1] rfl rfl (by decide) (by decide) hk1 hFc ht hvm hB
            have hP : va_P D vwCl [(ps2, .inr (3, [.int 0, .ref em, .int 0])), (mm, .inr (10, [.int 0, .int 9, .int 0, .int 99, .ref c2, .ref ps2, .ref pr, .int 0, .int 0, .int ((-1)), .ref l2, .long 0]))] _ := hP
            have hD : va_D A [(ps2, .inr (3, [.int 0, .ref em, .int 0])), (mm, .inr (10, [.int 0, .int 9, .int 0, .int 99, .ref c2, .ref ps2, .ref pr, .int 0, .int 0, .int ((-1)), .ref l2, .long 0]))] := hD
            have hK : va_K D vwCl [] s := hK
            refine W.widen (k := 0) (n := 0) (Nat.le_refl _) (Nat.le_refl _) ?_
            refine W.eq (g2 := F0 m 42 ls [.int 1]) rfl ?_
            refine lv_if_eq (tgt := 50) hx hb dX6_come_42 (by decide) (fun c9 => absurd c9 (by decide)) (fun c9 => ?_)
            refine lv_iload hx hb dX6_come_45 (lv_at hl 5 rfl) ?_
            refine lv_if_ge (tgt := 56) hx hb dX6_come_47 (by decide) (fun c_10 => ?_) (fun c_10 => ?_)
            · refine lv_aload_n hx hb dX6_come_56 rfl (lv_at hl 0 rfl) ?_
              refine va_get (D := D) (ci := 10) (v := .ref ps2) (C := RX6) (T := TX6) (N := 12) hx hb hts hiRX6 hown hK hP 1 rfl rfl 5 (by decide) (hts (.fieldLink RX6 24 "TowerliftryModel" "persons" "Ljava/util/ArrayList;") (by decide +kernel)) (fun _ h9 => h9) rfl dX6_come_57 ?_
              have hPc := hP.sub (ws' := [(ps2, .inr (3, [.int 0, .ref em, .int 0]))]) [0] rfl
              have hDc := hD.sub (ws' := [(ps2, .inr (3, [.int 0, .ref em, .int 0]))]) [0] (by decide) rfl
              have hKc := hK.sub (tys' := []) [] rfl
              have hFc := va_free (wc := [(ps2, .inr (3, [.int 0, .ref em, .int 0]))]) hD hS hA [0] rfl
              refine va_calli (va_runV (As := []) (rest := []) ⟨hx, hb, hml, hown, hts⟩ (c_size0 l hst em kw kb D ps2 em _) (cwV 0 hts gX6_come_Jx4a65c_size_8abf5 rfl rfl rfl (by decide +kernel) ⟨(Nat.le_of_ble_eq_true rfl), (Nat.le_of_ble_eq_true rfl)⟩) (tw_preV hF hS hFc hPc hKc hDc (va_recv hKc hPc (ci := 3) (q0 := 0) rfl rfl)) rfl rfl hl.1 rfl (lv_room (Nat.le_of_ble_eq_true rfl)) dX6_come_60 ⟨(Nat.le_of_ble_eq_true rfl), (Nat.le_of_ble_eq_true rfl)⟩) hS (fun q _ h => hFc q h) hFc (fun r u t H locs ht hvm hw hB hz1 hk1 hS => ?_)
              obtain ⟨rfl, rfl⟩ := hw
              obtain ⟨hP, hD, hK⟩ := tw_join (wr := [(mm, .inr (10, [.int 0, .int 9, .int 0, .int 99, .ref c2, .ref ps2, .ref pr, .int 0, .int 0, .int ((-1)), .ref l2, .long 0]))]) hP hD hK [0] [1] rfl rfl (by decide) (by decide) hk1 hFc ht hvm hB
              have hP : va_P D vwCl [(mm, .inr (10, [.int 0, .int 9, .int 0, .int 99, .ref c2, .ref ps2, .ref pr, .int 0, .int 0, .int ((-1)), .ref l2, .long 0])), (ps2, .inr (3, [.int 0, .ref em, .int 0]))] _ := hP
              have hD : va_D A [(mm, .inr (10, [.int 0, .int 9, .int 0, .int 99, .ref c2, .ref ps2, .ref pr, .int 0, .int 0, .int ((-1)), .ref l2, .long 0])), (ps2, .inr (3, [.int 0, .ref em, .int 0]))] := hD
              have hK : va_K D vwCl [] s := hK
              refine W.widen (k := 0) (n := 0) (Nat.le_refl _) (Nat.le_refl _) ?_
              refine W.eq (g2 := F0 m 63 ls [.int 0]) rfl ?_
              refine lv_bipush (v := 60) hx hb dX6_come_63 (by decide) ?_
              refine lv_icmp_ne (tgt := 74) hx hb dX6_come_65 (by decide) (fun c9 => ?_) (fun c9 => absurd c9 (by decide))
              refine va_new (ci := 9) (fs := [.int 0, .int 0, .int 0, .int 0, .int 0, .int 0, .int 0, .null]) (C := RX5) (T := TX5) (N := 8) hx hb hts hiRX5 tyX5 tyX5_ok hown (hts (.classLink RX6 105 RX5) (by decide +kernel)) (hts (.instantiable RX5 8) (by decide +kernel)) (hts (.initialized RX5) (by decide +kernel)) hK hP hD hS hA rfl (by decide +kernel) (Nat.le_of_ble_eq_true rfl) (Nat.le_of_ble_eq_true rfl) dX6_come_74 (fun q_11 H hP hD hS => ?_)
              have hP : va_P D vwCl [(mm, .inr (10, [.int 0, .int 9, .int 0, .int 99, .ref c2, .ref ps2, .ref pr, .int 0, .int 0, .int ((-1)), .ref l2, .long 0])), (ps2, .inr (3, [.int 0, .ref em, .int 0])), (q_11, .inr (9, [.int 0, .int 0, .int 0, .int 0, .int 0, .int 0, .int 0, .null]))] _ := hP
              have hD : va_D A [(mm, .inr (10, [.int 0, .int 9, .int 0, .int 99, .ref c2, .ref ps2, .ref pr, .int 0, .int 0, .int ((-1)), .ref l2, .long 0])), (ps2, .inr (3, [.int 0, .ref em, .int 0])), (q_11, .inr (9, [.int 0, .int 0, .int 0, .int 0, .int 0, .int 0, .int 0, .null]))] := hD
              refine W.widen (k := 1) (n := 8) (Nat.le_refl _) (Nat.le_refl _) ?_
              refine lv_dup hx hb dX6_come_77 rfl ?_
              refine lv_aload_n hx hb dX6_come_78 rfl (lv_at hl 0 rfl) ?_
              refine va_get (D := D) (ci := 10) (v := .ref ps2) (C := RX6) (T := TX6) (N := 12) hx hb hts hiRX6 hown hK hP 0 rfl rfl 5 (by decide) (hts (.fieldLink RX6 24 "TowerliftryModel" "persons" "Ljava/util/ArrayList;") (by decide +kernel)) (fun _ h9 => h9) rfl dX6_come_79 ?_
              have hPc := hP.sub (ws' := [(ps2, .inr (3, [.int 0, .ref em, .int 0]))]) [1] rfl
              have hDc := hD.sub (ws' := [(ps2, .inr (3, [.int 0, .ref em, .int 0]))]) [1] (by decide) rfl
              have hKc := hK.sub (tys' := []) [] rfl
              have hFc := va_free (wc := [(ps2, .inr (3, [.int 0, .ref em, .int 0]))]) hD hS hA [1] rfl
              refine va_calli (va_runV (As := []) (rest := [.ref q_11, .ref q_11]) ⟨hx, hb, hml, hown, hts⟩ (c_size0 l hst em kw kb D ps2 em _) (cwV 0 hts gX6_come_Jx4a65c_size_8abf5 rfl rfl rfl (by decide +kernel) ⟨(Nat.le_of_ble_eq_true rfl), (Nat.le_of_ble_eq_true rfl)⟩) (tw_preV hF hS hFc hPc hKc hDc (va_recv hKc hPc (ci := 3) (q0 := 0) rfl rfl)) rfl rfl hl.1 rfl (lv_room (Nat.le_of_ble_eq_true rfl)) dX6_come_82 ⟨(Nat.le_of_ble_eq_true rfl), (Nat.le_of_ble_eq_true rfl)⟩) hS (fun q _ h => hFc q h) hFc (fun r u t H locs ht hvm hw hB hz1 hk1 hS => ?_)
              obtain ⟨rfl, rfl⟩ := hw
              obtain ⟨hP, hD, hK⟩ := tw_join (wr := [(mm, .inr (10, [.int 0, .int 9, .int 0, .int 99, .ref c2, .ref ps2, .ref pr, .int 0, .int 0, .int ((-1)), .ref l2, .long 0])), (q_11, .inr (9, [.int 0, .int 0, .int 0, .int 0, .int 0, .int 0, .int 0, .null]))]) hP hD hK [1] [0, 2] rfl rfl (by decide) (by decide) hk1 hFc ht hvm hB
              have hP : va_P D vwCl [(mm, .inr (10, [.int 0, .int 9, .int 0, .int 99, .ref c2, .ref ps2, .ref pr, .int 0, .int 0, .int ((-1)), .ref l2, .long 0])), (q_11, .inr (9, [.int 0, .int 0, .int 0, .int 0, .int 0, .int 0, .int 0, .null])), (ps2, .inr (3, [.int 0, .ref em, .int 0]))] _ := hP
              have hD : va_D A [(mm, .inr (10, [.int 0, .int 9, .int 0, .int 99, .ref c2, .ref ps2, .ref pr, .int 0, .int 0, .int ((-1)), .ref l2, .long 0])), (q_11, .inr (9, [.int 0, .int 0, .int 0, .int 0, .int 0, .int 0, .int 0, .null])), (ps2, .inr (3, [.int 0, .ref em, .int 0]))] := hD
              have hK : va_K D vwCl [] s := hK
              refine W.widen (k := 1) (n := 8) (Nat.le_refl _) (Nat.le_refl _) ?_
              refine W.eq (g2 := F0 m 85 ls [.int 0, .ref q_11, .ref q_11]) rfl ?_
              refine lv_iload_n hx hb dX6_come_85 rfl (lv_at hl 1 rfl) ?_
              refine lv_iload_n hx hb dX6_come_86 rfl (lv_at hl 2 rfl) ?_
              refine lv_iload_n hx hb dX6_come_87 rfl (lv_at hl 3 rfl) ?_
              refine lv_iload hx hb dX6_come_88 (lv_at hl 4 rfl) ?_
              have hPc := hP.sub (ws' := [(q_11, .inr (9, [.int 0, .int 0, .int 0, .int 0, .int 0, .int 0, .int 0, .null]))]) [1] rfl
              have hDc := hD.sub (ws' := [(q_11, .inr (9, [.int 0, .int 0, .int 0, .int 0, .int 0, .int 0, .int 0, .null]))]) [1] (by decide) rfl
              have hKc := hK.sub (tys' := []) [] rfl
              have hFc := va_free (wc := [(q_11, .inr (9, [.int 0, .int 0, .int 0, .int 0, .int 0, .int 0, .int 0, .null]))]) hD hS hA [1] rfl
              refine va_callv (va_runI (As := [.int 0, .int p0, .int p1, .int p2, .int p3]) (rest := [.ref q_11]) ⟨hx, hb, hml, hown, hts⟩ (c_X5_init l hst em kw kb D q_11 0 p0 p1 p2 p3 _) (cwI 5 hts gX6_come_X5_init rfl rfl rfl (hts (.initialized RX5) (by decide +kernel)) (hts (.methodLink RX6 107 yX5_init) (by decide +kernel)) (hts (.instanceMethod yX5_init) (by decide +kernel)) rfl (by decide +kernel) ⟨(Nat.le_of_ble_eq_true rfl), (Nat.le_of_ble_eq_true rfl)⟩) (tw_preS hF hS hFc hPc hKc hDc) rfl rfl hl.1 rfl (lv_room (Nat.le_of_ble_eq_true rfl)) dX6_come_90 ⟨(Nat.le_of_ble_eq_true rfl), (Nat.le_of_ble_eq_true rfl)⟩) hS (fun q _ h => hFc q h) hFc (fun u t H locs ht hvm hw hB hz1 hk1 hS => ?_)
              subst hw
              obtain ⟨hP, hD, hK⟩ := tw_join (wr := [(mm, .inr (10, [.int 0, .int 9, .int 0, .int 99, .ref c2, .ref ps2, .ref pr, .int 0, .int 0, .int ((-1)), .ref l2, .long 0])), (ps2, .inr (3, [.int 0, .ref em, .int 0]))]) hP hD hK [1] [0, 2] rfl rfl (by decide) (by decide) hk1 hFc ht hvm hB
              have hP : va_P D vwCl [(mm, .inr (10, [.int 0, .int 9, .int 0, .int 99, .ref c2, .ref ps2, .ref pr, .int 0, .int 0, .int ((-1)), .ref l2, .long 0])), (ps2, .inr (3, [.int 0, .ref em, .int 0])), (q_11, .inr (9, [.int 0, .int p1, .int p2, .int p3, .int p0, .int 0, .int 119, .null]))] _ := hP
              have hD : va_D A [(mm, .inr (10, [.int 0, .int 9, .int 0, .int 99, .ref c2, .ref ps2, .ref pr, .int 0, .int 0, .int ((-1)), .ref l2, .long 0])), (ps2, .inr (3, [.int 0, .ref em, .int 0])), (q_11, .inr (9, [.int 0, .int p1, .int p2, .int p3, .int p0, .int 0, .int 119, .null]))] := hD
              have hK : va_K D vwCl [] s := hK
              refine W.widen (k := 1) (n := 8) (Nat.le_refl _) (Nat.le_refl _) ?_
              refine W.eq (g2 := F0 m 93 ls [.ref q_11]) rfl ?_
              refine lv_astore (lv' := [(6, .ref q_11), (0, .ref mm), (1, .int p0), (2, .int p1), (3, .int p2), (4, .int p3), (5, .int p4)]) hx hb dX6_come_93 hl (by decide) rfl (fun ls hl => ?_)
              refine lv_iload hx hb dX6_come_95 (lv_at hl 6 rfl) ?_
              refine lv_iload_n hx hb dX6_come_97 rfl (lv_at hl 3 rfl) ?_
              refine lv_ishr hx hb dX6_come_98 ?_
              refine lv_iconst (v := 1) hx hb dX6_come_99 (by decide) ?_
              refine lv_iand hx hb dX6_come_100 ?_
              refine lv_iconst (v := 1) hx hb dX6_come_101 (by decide) ?_
              refine lv_icmp_ne (tgt := 112) hx hb dX6_come_102 (by decide) (fun c_12 => ?_) (fun c_12 => ?_)
              · refine lv_aload_n hx hb dX6_come_112 rfl (lv_at hl 1 rfl) ?_
                refine va_get (D := D) (ci := 10) (v := .ref ps2) (C := RX6) (T := TX6) (N := 12) hx hb hts hiRX6 hown hK hP 0 rfl rfl 5 (by decide) (hts (.fieldLink RX6 24 "TowerliftryModel" "persons" "Ljava/util/ArrayList;") (by decide +kernel)) (fun _ h9 => h9) rfl dX6_come_113 ?_
                refine lv_aload hx hb dX6_come_116 (lv_at hl 0 rfl) ?_
                have hPc := hP.sub (ws' := [(ps2, .inr (3, [.int 0, .ref em, .int 0])), (q_11, .inr (9, [.int 0, .int p1, .int p2, .int p3, .int p0, .int 0, .int 119, .null]))]) [1, 2] rfl
                have hDc := hD.sub (ws' := [(ps2, .inr (3, [.int 0, .ref em, .int 0])), (q_11, .inr (9, [.int 0, .int p1, .int p2, .int p3, .int p0, .int 0, .int 119, .null]))]) [1, 2] (by decide) rfl
                have hKc := hK.sub (tys' := []) [] rfl
                have hFc := va_free (wc := [(ps2, .inr (3, [.int 0, .ref em, .int 0])), (q_11, .inr (9, [.int 0, .int p1, .int p2, .int p3, .int p0, .int 0, .int 119, .null]))]) hD hS hA [1, 2] rfl
                refine va_calli (va_runV (As := [.ref q_11]) (rest := []) ⟨hx, hb, hml, hown, hts⟩ (c_add_RX5 l hst em kw kb D ps2 q_11 0 p1 p2 p3 p0 0 119 _) (cwV 1 hts gX6_come_Jx4a65c_add_9ea2d rfl rfl rfl (by decide +kernel) ⟨(Nat.le_of_ble_eq_true rfl), (Nat.le_of_ble_eq_true rfl)⟩) (tw_preV hF hS hFc hPc hKc hDc (va_recv hKc hPc (ci := 3) (q0 := 0) rfl rfl)) rfl rfl hl.1 rfl (lv_room (Nat.le_of_ble_eq_true rfl)) dX6_come_118 ⟨(Nat.le_of_ble_eq_true rfl), (Nat.le_of_ble_eq_true rfl)⟩) hS (fun q _ h => hFc q h) hFc (fun r u t H locs ht hvm hw hB hz1 hk1 hS => ?_)
                obtain ⟨q_13, rfl, rfl⟩ := hw
                obtain ⟨hP, hD, hK⟩ := tw_join (wr := [(mm, .inr (10, [.int 0, .int 9, .int 0, .int 99, .ref c2, .ref ps2, .ref pr, .int 0, .int 0, .int ((-1)), .ref l2, .long 0]))]) hP hD hK [1, 2] [0] rfl rfl (by decide) (by decide) hk1 hFc ht hvm hB
                have hP : va_P D vwCl [(mm, .inr (10, [.int 0, .int 9, .int 0, .int 99, .ref c2, .ref ps2, .ref pr, .int 0, .int 0, .int ((-1)), .ref l2, .long 0])), (ps2, .inr (3, [.int 1, .ref q_13, .int 1])), (q_11, .inr (9, [.int 0, .int p1, .int p2, .int p3, .int p0, .int 0, .int 119, .null]))] _ := hP
                have hD : va_D A [(mm, .inr (10, [.int 0, .int 9, .int 0, .int 99, .ref c2, .ref ps2, .ref pr, .int 0, .int 0, .int ((-1)), .ref l2, .long 0])), (ps2, .inr (3, [.int 1, .ref q_13, .int 1])), (q_11, .inr (9, [.int 0, .int p1, .int p2, .int p3, .int p0, .int 0, .int 119, .null]))] := hD
                have hK : va_K D vwCl [] s := hK
                refine W.widen (k := 2) (n := 18) (Nat.le_refl _) (Nat.le_refl _) ?_
                refine W.eq (g2 := F0 m 121 ls [.int 1]) rfl ?_
                refine lv_pop hx hb dX6_come_121 rfl ?_
                refine lv_aload_n hx hb dX6_come_122 rfl (lv_at hl 1 rfl) ?_
                refine lv_aload hx hb dX6_come_123 (lv_at hl 0 rfl) ?_
                refine va_getN (D := D) (ci := 9) (v := .int 0) (C := RX5) (T := TX5) (N := 8) (host := "TowerliftryModel") hx hb hts hiRX5 hown hK hP 2 rfl rfl 0 (by decide) (tw_nf hF (q := ("TowerliftryModel", 113, "TowerliftryModel$Person", "number", "I", "TowerliftryModel")) (by decide)) (fun _ h9 => h9) rfl dX6_come_125 ?_
                have hPc := hP.sub (ws' := [(mm, .inr (10, [.int 0, .int 9, .int 0, .int 99, .ref c2, .ref ps2, .ref pr, .int 0, .int 0, .int ((-1)), .ref l2, .long 0]))]) [0] rfl
                have hDc := hD.sub (ws' := [(mm, .inr (10, [.int 0, .int 9, .int 0, .int 99, .ref c2, .ref ps2, .ref pr, .int 0, .int 0, .int ((-1)), .ref l2, .long 0]))]) [0] (by decide) rfl
                have hKc := hK.sub (tys' := []) [] rfl
                have hFc := va_free (wc := [(mm, .inr (10, [.int 0, .int 9, .int 0, .int 99, .ref c2, .ref ps2, .ref pr, .int 0, .int 0, .int ((-1)), .ref l2, .long 0]))]) hD hS hA [0] rfl
                refine va_calli (va_runV (As := [.int 0]) (rest := []) ⟨hx, hb, hml, hown, hts⟩ (c_X6_tells l hst em kw kb D mm 0 0 9 0 99 c2 ps2 pr 0 0 ((-1)) l2 0 _) (cwV 1 hts gX6_come_X6_tells rfl rfl rfl (by decide +kernel) ⟨(Nat.le_of_ble_eq_true rfl), (Nat.le_of_ble_eq_true rfl)⟩) (tw_preV hF hS hFc hPc hKc hDc (va_recv hKc hPc (ci := 10) (q0 := 0) rfl rfl)) rfl rfl hl.1 rfl (lv_room (Nat.le_of_ble_eq_true rfl)) dX6_come_128 ⟨(Nat.le_of_ble_eq_true rfl), (Nat.le_of_ble_eq_true rfl)⟩) hS (fun q _ h => hFc q h) hFc (fun r u t H locs ht hvm hw hB hz1 hk1 hS => ?_)
                obtain ⟨rfl, rfl⟩ := hw
                obtain ⟨hP, hD, hK⟩ := tw_join (wr := [(ps2, .inr (3, [.int 1, .ref q_13, .int 1])), (q_11, .inr (9, [.int 0, .int p1, .int p2, .int p3, .int p0, .int 0, .int 119, .null]))]) hP hD hK [0] [1, 2] rfl rfl (by decide) (by decide) hk1 hFc ht hvm hB
                have hP : va_P D vwCl [(ps2, .inr (3, [.int 1, .ref q_13, .int 1])), (q_11, .inr (9, [.int 0, .int p1, .int p2, .int p3, .int p0, .int 0, .int 119, .null])), (mm, .inr (10, [.int 0, .int 9, .int 0, .int 99, .ref c2, .ref ps2, .ref pr, .int 0, .int 0, .int ((-1)), .ref l2, .long 0]))] _ := hP
                have hD : va_D A [(ps2, .inr (3, [.int 1, .ref q_13, .int 1])), (q_11, .inr (9, [.int 0, .int p1, .int p2, .int p3, .int p0, .int 0, .int 119, .null])), (mm, .inr (10, [.int 0, .int 9, .int 0, .int 99, .ref c2, .ref ps2, .ref pr, .int 0, .int 0, .int ((-1)), .ref l2, .long 0]))] := hD
                have hK : va_K D vwCl [] s := hK
                refine W.widen (k := 2) (n := 18) (Nat.le_refl _) (Nat.le_refl _) ?_
                refine W.eq (g2 := F0 m 131 ls [.int 0]) rfl ?_
                refine W.widen (k := 2) (n := 18) (Nat.le_of_ble_eq_true rfl) (Nat.le_of_ble_eq_true rfl) ?_
                have hP9 := hP.sub (ws' := [(mm, .inr (10, [.int 0, .int 9, .int 0, .int 99, .ref c2, .ref ps2, .ref pr, .int 0, .int 0, .int ((-1)), .ref l2, .long 0]))]) [2] rfl
                have hD9 := hD.sub (ws' := [(mm, .inr (10, [.int 0, .int 9, .int 0, .int 99, .ref c2, .ref ps2, .ref pr, .int 0, .int 0, .int ((-1)), .ref l2, .long 0]))]) [2] (by decide) rfl
                have hK9 := hK.sub (tys' := []) [] rfl
                exact W.iret (v := 0) hx hb hr (fun t ht hW => ⟨⟨0, ([(mm, .inr (10, [.int 0, .int 9, .int 0, .int 99, .ref c2, .ref ps2, .ref pr, .int 0, .int 0, .int ((-1)), .ref l2, .long 0]))], []), rfl, (Or.inr (⟨(Or.inl ⟨g_2, g_4, c_5, g_7, g_9, c_10, c_12⟩), rfl, rfl⟩)), by rw [ht]; exact hP9, va_K.moved hW.alike hK9, hD9⟩, hS.F ht⟩) hS.2.2 dX6_come_131
              · refine lv_aload hx hb dX6_come_105 (lv_at hl 0 rfl) ?_
                refine lv_bipush (v := 114) hx hb dX6_come_107 (by decide) ?_
                refine va_putN (D := D) (ci := 9) (v := .int 114) (ty := .char) (C := RX5) (T := TX5) (N := 8) (host := "TowerliftryModel") hx hb hts hiRX5 tyX5 tyX5_ok nmX5 hown hK hP hD hS 2 rfl rfl 6 (by decide) (tw_nf hF (q := ("TowerliftryModel", 110, "TowerliftryModel$Person", "state", "C", "TowerliftryModel")) (by decide)) (fun _ h9 => h9) rfl (by decide +kernel) (by decide) (by decide) (Nat.le_of_ble_eq_true rfl) dX6_come_109 (fun H locs hP hD hS => ?_)
                have hP : va_P D vwCl [(mm, .inr (10, [.int 0, .int 9, .int 0, .int 99, .ref c2, .ref ps2, .ref pr, .int 0, .int 0, .int ((-1)), .ref l2, .long 0])), (ps2, .inr (3, [.int 0, .ref em, .int 0])), (q_11, .inr (9, [.int 0, .int p1, .int p2, .int p3, .int p0, .int 0, .int 114, .null]))] _ := hP
                have hD : va_D A [(mm, .inr (10, [.int 0, .int 9, .int 0, .int 99, .ref c2, .ref ps2, .ref pr, .int 0, .int 0, .int ((-1)), .ref l2, .long 0])), (ps2, .inr (3, [.int 0, .ref em, .int 0])), (q_11, .inr (9, [.int 0, .int p1, .int p2, .int p3, .int p0, .int 0, .int 114, .null]))] := hD
                refine lv_aload_n hx hb dX6_come_112 rfl (lv_at hl 1 rfl) ?_
                refine va_get (D := D) (ci := 10) (v := .ref ps2) (C := RX6) (T := TX6) (N := 12) hx hb hts hiRX6 hown hK hP 0 rfl rfl 5 (by decide) (hts (.fieldLink RX6 24 "TowerliftryModel" "persons" "Ljava/util/ArrayList;") (by decide +kernel)) (fun _ h9 => h9) rfl dX6_come_113 ?_
                refine lv_aload hx hb dX6_come_116 (lv_at hl 0 rfl) ?_
                have hPc := hP.sub (ws' := [(ps2, .inr (3, [.int 0, .ref em, .int 0])), (q_11, .inr (9, [.int 0, .int p1, .int p2, .int p3, .int p0, .int 0, .int 114, .null]))]) [1, 2] rfl
                have hDc := hD.sub (ws' := [(ps2, .inr (3, [.int 0, .ref em, .int 0])), (q_11, .inr (9, [.int 0, .int p1, .int p2, .int p3, .int p0, .int 0, .int 114, .null]))]) [1, 2] (by decide) rfl
                have hKc := hK.sub (tys' := []) [] rfl
                have hFc := va_free (wc := [(ps2, .inr (3, [.int 0, .ref em, .int 0])), (q_11, .inr (9, [.int 0, .int p1, .int p2, .int p3, .int p0, .int 0, .int 114, .null]))]) hD hS hA [1, 2] rfl
                refine va_calli (va_runV (As := [.ref q_11]) (rest := []) ⟨hx, hb, hml, hown, hts⟩ (c_add_RX5 l hst em kw kb D ps2 q_11 0 p1 p2 p3 p0 0 114 _) (cwV 1 hts gX6_come_Jx4a65c_add_9ea2d rfl rfl rfl (by decide +kernel) ⟨(Nat.le_of_ble_eq_true rfl), (Nat.le_of_ble_eq_true rfl)⟩) (tw_preV hF hS hFc hPc hKc hDc (va_recv hKc hPc (ci := 3) (q0 := 0) rfl rfl)) rfl rfl hl.1 rfl (lv_room (Nat.le_of_ble_eq_true rfl)) dX6_come_118 ⟨(Nat.le_of_ble_eq_true rfl), (Nat.le_of_ble_eq_true rfl)⟩) hS (fun q _ h => hFc q h) hFc (fun r u t H locs ht hvm hw hB hz1 hk1 hS => ?_)
                obtain ⟨q_14, rfl, rfl⟩ := hw
                obtain ⟨hP, hD, hK⟩ := tw_join (wr := [(mm, .inr (10, [.int 0, .int 9, .int 0, .int 99, .ref c2, .ref ps2, .ref pr, .int 0, .int 0, .int ((-1)), .ref l2, .long 0]))]) hP hD hK [1, 2] [0] rfl rfl (by decide) (by decide) hk1 hFc ht hvm hB
                have hP : va_P D vwCl [(mm, .inr (10, [.int 0, .int 9, .int 0, .int 99, .ref c2, .ref ps2, .ref pr, .int 0, .int 0, .int ((-1)), .ref l2, .long 0])), (ps2, .inr (3, [.int 1, .ref q_14, .int 1])), (q_11, .inr (9, [.int 0, .int p1, .int p2, .int p3, .int p0, .int 0, .int 114, .null]))] _ := hP
                have hD : va_D A [(mm, .inr (10, [.int 0, .int 9, .int 0, .int 99, .ref c2, .ref ps2, .ref pr, .int 0, .int 0, .int ((-1)), .ref l2, .long 0])), (ps2, .inr (3, [.int 1, .ref q_14, .int 1])), (q_11, .inr (9, [.int 0, .int p1, .int p2, .int p3, .int p0, .int 0, .int 114, .null]))] := hD
                have hK : va_K D vwCl [] s := hK
                refine W.widen (k := 2) (n := 18) (Nat.le_refl _) (Nat.le_refl _) ?_
                refine W.eq (g2 := F0 m 121 ls [.int 1]) rfl ?_
                refine lv_pop hx hb dX6_come_121 rfl ?_
                refine lv_aload_n hx hb dX6_come_122 rfl (lv_at hl 1 rfl) ?_
                refine lv_aload hx hb dX6_come_123 (lv_at hl 0 rfl) ?_
                refine va_getN (D := D) (ci := 9) (v := .int 0) (C := RX5) (T := TX5) (N := 8) (host := "TowerliftryModel") hx hb hts hiRX5 hown hK hP 2 rfl rfl 0 (by decide) (tw_nf hF (q := ("TowerliftryModel", 113, "TowerliftryModel$Person", "number", "I", "TowerliftryModel")) (by decide)) (fun _ h9 => h9) rfl dX6_come_125 ?_
                have hPc := hP.sub (ws' := [(mm, .inr (10, [.int 0, .int 9, .int 0, .int 99, .ref c2, .ref ps2, .ref pr, .int 0, .int 0, .int ((-1)), .ref l2, .long 0]))]) [0] rfl
                have hDc := hD.sub (ws' := [(mm, .inr (10, [.int 0, .int 9, .int 0, .int 99, .ref c2, .ref ps2, .ref pr, .int 0, .int 0, .int ((-1)), .ref l2, .long 0]))]) [0] (by decide) rfl
                have hKc := hK.sub (tys' := []) [] rfl
                have hFc := va_free (wc := [(mm, .inr (10, [.int 0, .int 9, .int 0, .int 99, .ref c2, .ref ps2, .ref pr, .int 0, .int 0, .int ((-1)), .ref l2, .long 0]))]) hD hS hA [0] rfl
                refine va_calli (va_runV (As := [.int 0]) (rest := []) ⟨hx, hb, hml, hown, hts⟩ (c_X6_tells l hst em kw kb D mm 0 0 9 0 99 c2 ps2 pr 0 0 ((-1)) l2 0 _) (cwV 1 hts gX6_come_X6_tells rfl rfl rfl (by decide +kernel) ⟨(Nat.le_of_ble_eq_true rfl), (Nat.le_of_ble_eq_true rfl)⟩) (tw_preV hF hS hFc hPc hKc hDc (va_recv hKc hPc (ci := 10) (q0 := 0) rfl rfl)) rfl rfl hl.1 rfl (lv_room (Nat.le_of_ble_eq_true rfl)) dX6_come_128 ⟨(Nat.le_of_ble_eq_true rfl), (Nat.le_of_ble_eq_true rfl)⟩) hS (fun q _ h => hFc q h) hFc (fun r u t H locs ht hvm hw hB hz1 hk1 hS => ?_)
                obtain ⟨rfl, rfl⟩ := hw
                obtain ⟨hP, hD, hK⟩ := tw_join (wr := [(ps2, .inr (3, [.int 1, .ref q_14, .int 1])), (q_11, .inr (9, [.int 0, .int p1, .int p2, .int p3, .int p0, .int 0, .int 114, .null]))]) hP hD hK [0] [1, 2] rfl rfl (by decide) (by decide) hk1 hFc ht hvm hB
                have hP : va_P D vwCl [(ps2, .inr (3, [.int 1, .ref q_14, .int 1])), (q_11, .inr (9, [.int 0, .int p1, .int p2, .int p3, .int p0, .int 0, .int 114, .null])), (mm, .inr (10, [.int 0, .int 9, .int 0, .int 99, .ref c2, .ref ps2, .ref pr, .int 0, .int 0, .int ((-1)), .ref l2, .long 0]))] _ := hP
                have hD : va_D A [(ps2, .inr (3, [.int 1, .ref q_14, .int 1])), (q_11, .inr (9, [.int 0, .int p1, .int p2, .int p3, .int p0, .int 0, .int 114, .null])), (mm, .inr (10, [.int 0, .int 9, .int 0, .int 99, .ref c2, .ref ps2, .ref pr, .int 0, .int 0, .int ((-1)), .ref l2, .long 0]))] := hD
                have hK : va_K D vwCl [] s := hK
                refine W.widen (k := 2) (n := 18) (Nat.le_refl _) (Nat.le_refl _) ?_
                refine W.eq (g2 := F0 m 131 ls [.int 0]) rfl ?_
                refine W.widen (k := 2) (n := 18) (Nat.le_of_ble_eq_true rfl) (Nat.le_of_ble_eq_true rfl) ?_
                have hP9 := hP.sub (ws' := [(mm, .inr (10, [.int 0, .int 9, .int 0, .int 99, .ref c2, .ref ps2, .ref pr, .int 0, .int 0, .int ((-1)), .ref l2, .long 0]))]) [2] rfl
                have hD9 := hD.sub (ws' := [(mm, .inr (10, [.int 0, .int 9, .int 0, .int 99, .ref c2, .ref ps2, .ref pr, .int 0, .int 0, .int ((-1)), .ref l2, .long 0]))]) [2] (by decide) rfl
                have hK9 := hK.sub (tys' := []) [] rfl
                exact W.iret (v := 0) hx hb hr (fun t ht hW => ⟨⟨0, ([(mm, .inr (10, [.int 0, .int 9, .int 0, .int 99, .ref c2, .ref ps2, .ref pr, .int 0, .int 0, .int ((-1)), .ref l2, .long 0]))], []), rfl, (Or.inr (⟨(Or.inr (⟨g_2, g_4, c_5, g_7, g_9, c_10, c_12⟩)), rfl, rfl⟩)), by rw [ht]; exact hP9, va_K.moved hW.alike hK9, hD9⟩, hS.F ht⟩) hS.2.2 dX6_come_131
            · refine lv_aload_n hx hb dX6_come_50 rfl (lv_at hl 0 rfl) ?_
              refine lv_iconst (v := 1) hx hb dX6_come_51 (by decide) ?_
              have hPc := hP.sub (ws' := [(mm, .inr (10, [.int 0, .int 9, .int 0, .int 99, .ref c2, .ref ps2, .ref pr, .int 0, .int 0, .int ((-1)), .ref l2, .long 0]))]) [1] rfl
              have hDc := hD.sub (ws' := [(mm, .inr (10, [.int 0, .int 9, .int 0, .int 99, .ref c2, .ref ps2, .ref pr, .int 0, .int 0, .int ((-1)), .ref l2, .long 0]))]) [1] (by decide) rfl
              have hKc := hK.sub (tys' := []) [] rfl
              have hFc := va_free (wc := [(mm, .inr (10, [.int 0, .int 9, .int 0, .int 99, .ref c2, .ref ps2, .ref pr, .int 0, .int 0, .int ((-1)), .ref l2, .long 0]))]) hD hS hA [1] rfl
              refine va_calli (va_runV (As := [.int 1]) (rest := []) ⟨hx, hb, hml, hown, hts⟩ (c_X6_fails l hst em kw kb D mm 1 0 9 0 99 c2 ps2 pr 0 0 ((-1)) l2 0 _) (cwV 1 hts gX6_come_X6_fails rfl rfl rfl (by decide +kernel) ⟨(Nat.le_of_ble_eq_true rfl), (Nat.le_of_ble_eq_true rfl)⟩) (tw_preV hF hS hFc hPc hKc hDc (va_recv hKc hPc (ci := 10) (q0 := 0) rfl rfl)) rfl rfl hl.1 rfl (lv_room (Nat.le_of_ble_eq_true rfl)) dX6_come_52 ⟨(Nat.le_of_ble_eq_true rfl), (Nat.le_of_ble_eq_true rfl)⟩) hS (fun q _ h => hFc q h) hFc (fun r u t H locs ht hvm hw hB hz1 hk1 hS => ?_)
              obtain ⟨rfl, rfl⟩ := hw
              obtain ⟨hP, hD, hK⟩ := tw_join (wr := [(ps2, .inr (3, [.int 0, .ref em, .int 0]))]) hP hD hK [1] [0] rfl rfl (by decide) (by decide) hk1 hFc ht hvm hB
              have hP : va_P D vwCl [(ps2, .inr (3, [.int 0, .ref em, .int 0])), (mm, .inr (10, [.int 1, .int 9, .int 0, .int 99, .ref c2, .ref ps2, .ref pr, .int 0, .int 0, .int ((-1)), .ref l2, .long 0]))] _ := hP
              have hD : va_D A [(ps2, .inr (3, [.int 0, .ref em, .int 0])), (mm, .inr (10, [.int 1, .int 9, .int 0, .int 99, .ref c2, .ref ps2, .ref pr, .int 0, .int 0, .int ((-1)), .ref l2, .long 0]))] := hD
              have hK : va_K D vwCl [] s := hK
              refine W.widen (k := 0) (n := 0) (Nat.le_refl _) (Nat.le_refl _) ?_
              refine W.eq (g2 := F0 m 55 ls [.int 0]) rfl ?_
              refine W.widen (k := 2) (n := 18) (Nat.le_of_ble_eq_true rfl) (Nat.le_of_ble_eq_true rfl) ?_
              have hP9 := hP.sub (ws' := [(mm, .inr (10, [.int 1, .int 9, .int 0, .int 99, .ref c2, .ref ps2, .ref pr, .int 0, .int 0, .int ((-1)), .ref l2, .long 0]))]) [1] rfl
              have hD9 := hD.sub (ws' := [(mm, .inr (10, [.int 1, .int 9, .int 0, .int 99, .ref c2, .ref ps2, .ref pr, .int 0, .int 0, .int ((-1)), .ref l2, .long 0]))]) [1] (by decide) rfl
              have hK9 := hK.sub (tys' := []) [] rfl
              exact W.iret (v := 0) hx hb hr (fun t ht hW => ⟨⟨0, ([(mm, .inr (10, [.int 1, .int 9, .int 0, .int 99, .ref c2, .ref ps2, .ref pr, .int 0, .int 0, .int ((-1)), .ref l2, .long 0]))], []), rfl, (Or.inl ⟨(Or.inr (Or.inr (Or.inr (Or.inr (Or.inr (⟨g_2, g_4, c_5, g_7, g_9, c_10⟩)))))), rfl, rfl⟩), by rw [ht]; exact hP9, va_K.moved hW.alike hK9, hD9⟩, hS.F ht⟩) hS.2.2 dX6_come_55
set_option maxHeartbeats 4000000 in
set_option maxRecDepth 100000 in
theorem c_X6_park (l : Launch) (hst : l.stackTraces = false) (em kw kb : Nat) (D : va_G) (mm : Nat) (p0 : Int32) (p1 : Int32) (c2 : Nat) (ps2 : Nat) (pr : Nat) (l2 : Nat) (sz : Nat) : Met l yX6_park wsX6_park ({ frames := 2, cells := 0, slots := 0, locals := 43 }) (va_Pc [.ref mm, .int p0, .int p1] (tw_Pre em kw kb D sz [(mm, .inr (10, [.int 0, .int 9, .int 0, .int 99, .ref c2, .ref ps2, .ref pr, .int 0, .int 0, .int ((-1)), .ref l2, .long 0])), (c2, .inr (3, [.int 0, .ref em, .int 0]))] [])) (va_Qi (fun (r : Int32) (u : tw_U) => r = 0 ∧ u = ([(mm, .inr (10, [.int 1, .int 9, .int 0, .int 99, .ref c2, .ref ps2, .ref pr, .int 0, .int 0, .int ((-1)), .ref l2, .long 0]))], [])) (tw_B D (va_A [(mm, .inr (10, [.int 0, .int 9, .int 0, .int 99, .ref c2, .ref ps2, .ref pr, .int 0, .int 0, .int ((-1)), .ref l2, .long 0])), (c2, .inr (3, [.int 0, .ref em, .int 0]))] sz)) (va_A [(mm, .inr (10, [.int 0, .int 9, .int 0, .int 99, .ref c2, .ref ps2, .ref pr, .int 0, .int 0, .int ((-1)), .ref l2, .long 0])), (c2, .inr (3, [.int 0, .ref em, .int 0]))] sz)) 0 0 (va_A [(mm, .inr (10, [.int 0, .int 9, .int 0, .int 99, .ref c2, .ref ps2, .ref pr, .int 0, .int 0, .int ((-1)), .ref l2, .long 0])), (c2, .inr (3, [.int 0, .ref em, .int 0]))] sz) := by
  refine Met.ofW (cc := cX6_park) (maxL := 4) (ret := (some .int)) (by decide) rfl ?_
  intro p e s m args below meth c s₁ B hml hv
  obtain ⟨rfl, hsz, hP, hK, hD0, hF⟩ := hv
  have hx := B.exec
  have hb := B.bytes
  have hr := B.returns
  have hts := atoms_spec (ws := wsX6_park) B.pre
  have hown : s.vm.findClass RX6 = some m.cls := findClass_of_methodNamed B.named
  have hlocks := B.notSynchronized
  subst hsz
  have hD := hD0.self (sz := s.heap.size)
  generalize hAe : va_A [(mm, .inr (10, [.int 0, .int 9, .int 0, .int 99, .ref c2, .ref ps2, .ref pr, .int 0, .int 0, .int ((-1)), .ref l2, .long 0])), (c2, .inr (3, [.int 0, .ref em, .int 0]))] s.heap.size = A at hD hF ⊢
  have hA : ∀ q : Nat, s.heap.size ≤ q → A q := fun q h => by rw [← hAe]; exact Or.inr h
  have hS : va_S A s.heap s.heap [] := va_S.rf
  have hP : va_P D vwCl [(mm, .inr (10, [.int 0, .int 9, .int 0, .int 99, .ref c2, .ref ps2, .ref pr, .int 0, .int 0, .int ((-1)), .ref l2, .long 0])), (c2, .inr (3, [.int 0, .ref em, .int 0]))] s.heap := hP
  have hl := lv_entry ([.ref mm, .int p0, .int p1]) (n := 4) (Nat.le_of_ble_eq_true rfl)
  rw [lg_entry_eq]
  generalize (lg_sl ([.ref mm, .int p0, .int p1]) ++ List.replicate (4 - (lg_sl ([.ref mm, .int p0, .int p1])).length) Slot.unset).toArray = ls at hl ⊢
  have hl : lv_has ls 4 [(0, .ref mm), (1, .int p0), (2, .int p1)] := hl
  refine lv_aload_n hx hb dX6_park_0 rfl (lv_at hl 0 rfl) ?_
  refine lv_iload_n hx hb dX6_park_1 rfl (lv_at hl 1 rfl) ?_
  have hPc := hP.sub (ws' := [(mm, .inr (10, [.int 0, .int 9, .int 0, .int 99, .ref c2, .ref ps2, .ref pr, .int 0, .int 0, .int ((-1)), .ref l2, .long 0])), (c2, .inr (3, [.int 0, .ref em, .int 0]))]) [0, 1] rfl
  have hDc := hD.sub (ws' := [(mm, .inr (10, [.int 0, .int 9, .int 0, .int 99, .ref c2, .ref ps2, .ref pr, .int 0, .int 0, .int ((-1)), .ref l2, .long 0])), (c2, .inr (3, [.int 0, .ref em, .int 0]))]) [0, 1] (by decide) rfl
  have hKc := hK.sub (tys' := []) [] rfl
  have hFc := va_free (wc := [(mm, .inr (10, [.int 0, .int 9, .int 0, .int 99, .ref c2, .ref ps2, .ref pr, .int 0, .int 0, .int ((-1)), .ref l2, .long 0])), (c2, .inr (3, [.int 0, .ref em, .int 0]))]) hD hS hA [0, 1] rfl
  refine va_calli (va_runV (As := [.int p0]) (rest := []) ⟨hx, hb, hml, hown, hts⟩ (c_X6_isCar l hst em kw kb D mm p0 c2 ps2 pr l2 _) (cwV 1 hts gX6_park_X6_isCar rfl rfl rfl (by decide +kernel) ⟨(Nat.le_of_ble_eq_true rfl), (Nat.le_of_ble_eq_true rfl)⟩) (tw_preV hF hS hFc hPc hKc hDc (va_recv hKc hPc (ci := 10) (q0 := 0) rfl rfl)) rfl rfl hl.1 rfl (lv_room (Nat.le_of_ble_eq_true rfl)) dX6_park_2 ⟨(Nat.le_of_ble_eq_true rfl), (Nat.le_of_ble_eq_true rfl)⟩) hS (fun q _ h => hFc q h) hFc (fun r u t H locs ht hvm hw hB hz1 hk1 hS => ?_)
  obtain ⟨rfl, rfl⟩ := hw
  obtain ⟨hP, hD, hK⟩ := tw_join (wr := []) hP hD hK [0, 1] [] rfl rfl (by decide) (by decide) hk1 hFc ht hvm hB
  have hP : va_P D vwCl [(mm, .inr (10, [.int 0, .int 9, .int 0, .int 99, .ref c2, .ref ps2, .ref pr, .int 0, .int 0, .int ((-1)), .ref l2, .long 0])), (c2, .inr (3, [.int 0, .ref em, .int 0]))] _ := hP
  have hD : va_D A [(mm, .inr (10, [.int 0, .int 9, .int 0, .int 99, .ref c2, .ref ps2, .ref pr, .int 0, .int 0, .int ((-1)), .ref l2, .long 0])), (c2, .inr (3, [.int 0, .ref em, .int 0]))] := hD
  have hK : va_K D vwCl [] s := hK
  refine W.widen (k := 0) (n := 0) (Nat.le_refl _) (Nat.le_refl _) ?_
  refine W.eq (g2 := F0 m 5 ls [.int 0]) rfl ?_
  refine lv_if_ne (tgt := 14) hx hb dX6_park_5 (by decide) (fun c9 => absurd c9 (by decide)) (fun c9 => ?_)
  refine lv_aload_n hx hb dX6_park_8 rfl (lv_at hl 0 rfl) ?_
  refine lv_iconst (v := 1) hx hb dX6_park_9 (by decide) ?_
  have hPc := hP.sub (ws' := [(mm, .inr (10, [.int 0, .int 9, .int 0, .int 99, .ref c2, .ref ps2, .ref pr, .int 0, .int 0, .int ((-1)), .ref l2, .long 0]))]) [0] rfl
  have hDc := hD.sub (ws' := [(mm, .inr (10, [.int 0, .int 9, .int 0, .int 99, .ref c2, .ref ps2, .ref pr, .int 0, .int 0, .int ((-1)), .ref l2, .long 0]))]) [0] (by decide) rfl
  have hKc := hK.sub (tys' := []) [] rfl
  have hFc := va_free (wc := [(mm, .inr (10, [.int 0, .int 9, .int 0, .int 99, .ref c2, .ref ps2, .ref pr, .int 0, .int 0, .int ((-1)), .ref l2, .long 0]))]) hD hS hA [0] rfl
  refine va_calli (va_runV (As := [.int 1]) (rest := []) ⟨hx, hb, hml, hown, hts⟩ (c_X6_fails l hst em kw kb D mm 1 0 9 0 99 c2 ps2 pr 0 0 ((-1)) l2 0 _) (cwV 1 hts gX6_park_X6_fails rfl rfl rfl (by decide +kernel) ⟨(Nat.le_of_ble_eq_true rfl), (Nat.le_of_ble_eq_true rfl)⟩) (tw_preV hF hS hFc hPc hKc hDc (va_recv hKc hPc (ci := 10) (q0 := 0) rfl rfl)) rfl rfl hl.1 rfl (lv_room (Nat.le_of_ble_eq_true rfl)) dX6_park_10 ⟨(Nat.le_of_ble_eq_true rfl), (Nat.le_of_ble_eq_true rfl)⟩) hS (fun q _ h => hFc q h) hFc (fun r u t H locs ht hvm hw hB hz1 hk1 hS => ?_)
  obtain ⟨rfl, rfl⟩ := hw
  obtain ⟨hP, hD, hK⟩ := tw_join (wr := [(c2, .inr (3, [.int 0, .ref em, .int 0]))]) hP hD hK [0] [1] rfl rfl (by decide) (by decide) hk1 hFc ht hvm hB
  have hP : va_P D vwCl [(c2, .inr (3, [.int 0, .ref em, .int 0])), (mm, .inr (10, [.int 1, .int 9, .int 0, .int 99, .ref c2, .ref ps2, .ref pr, .int 0, .int 0, .int ((-1)), .ref l2, .long 0]))] _ := hP
  have hD : va_D A [(c2, .inr (3, [.int 0, .ref em, .int 0])), (mm, .inr (10, [.int 1, .int 9, .int 0, .int 99, .ref c2, .ref ps2, .ref pr, .int 0, .int 0, .int ((-1)), .ref l2, .long 0]))] := hD
  have hK : va_K D vwCl [] s := hK
  refine W.widen (k := 0) (n := 0) (Nat.le_refl _) (Nat.le_refl _) ?_
  refine W.eq (g2 := F0 m 13 ls [.int 0]) rfl ?_
  refine W.widen (k := 0) (n := 0) (Nat.le_of_ble_eq_true rfl) (Nat.le_of_ble_eq_true rfl) ?_
  have hP9 := hP.sub (ws' := [(mm, .inr (10, [.int 1, .int 9, .int 0, .int 99, .ref c2, .ref ps2, .ref pr, .int 0, .int 0, .int ((-1)), .ref l2, .long 0]))]) [1] rfl
  have hD9 := hD.sub (ws' := [(mm, .inr (10, [.int 1, .int 9, .int 0, .int 99, .ref c2, .ref ps2, .ref pr, .int 0, .int 0, .int ((-1)), .ref l2, .long 0]))]) [1] (by decide) rfl
  have hK9 := hK.sub (tys' := []) [] rfl
  exact W.iret (v := 0) hx hb hr (fun t ht hW => ⟨⟨0, ([(mm, .inr (10, [.int 1, .int 9, .int 0, .int 99, .ref c2, .ref ps2, .ref pr, .int 0, .int 0, .int ((-1)), .ref l2, .long 0]))], []), rfl, ⟨rfl, rfl⟩, by rw [ht]; exact hP9, va_K.moved hW.alike hK9, hD9⟩, hS.F ht⟩) hS.2.2 dX6_park_13
set_option maxHeartbeats 4000000 in
set_option maxRecDepth 100000 in
theorem c_X6_serves (l : Launch) (hst : l.stackTraces = false) (em kw kb : Nat) (D : va_G) (mm : Nat) (p0 : Int32) (p1 : Int32) (c2 : Nat) (ps2 : Nat) (pr : Nat) (l2 : Nat) (sz : Nat) : Met l yX6_serves wsX6_serves ({ frames := 2, cells := 0, slots := 0, locals := 43 }) (va_Pc [.ref mm, .int p0, .int p1] (tw_Pre em kw kb D sz [(mm, .inr (10, [.int 0, .int 9, .int 0, .int 99, .ref c2, .ref ps2, .ref pr, .int 0, .int 0, .int ((-1)), .ref l2, .long 0])), (c2, .inr (3, [.int 0, .ref em, .int 0]))] [])) (va_Qi (fun (r : Int32) (u : tw_U) => r = 0 ∧ u = ([(mm, .inr (10, [.int 1, .int 9, .int 0, .int 99, .ref c2, .ref ps2, .ref pr, .int 0, .int 0, .int ((-1)), .ref l2, .long 0]))], [])) (tw_B D (va_A [(mm, .inr (10, [.int 0, .int 9, .int 0, .int 99, .ref c2, .ref ps2, .ref pr, .int 0, .int 0, .int ((-1)), .ref l2, .long 0])), (c2, .inr (3, [.int 0, .ref em, .int 0]))] sz)) (va_A [(mm, .inr (10, [.int 0, .int 9, .int 0, .int 99, .ref c2, .ref ps2, .ref pr, .int 0, .int 0, .int ((-1)), .ref l2, .long 0])), (c2, .inr (3, [.int 0, .ref em, .int 0]))] sz)) 0 0 (va_A [(mm, .inr (10, [.int 0, .int 9, .int 0, .int 99, .ref c2, .ref ps2, .ref pr, .int 0, .int 0, .int ((-1)), .ref l2, .long 0])), (c2, .inr (3, [.int 0, .ref em, .int 0]))] sz) := by
  refine Met.ofW (cc := cX6_serves) (maxL := 3) (ret := (some .boolean)) (by decide) rfl ?_
  intro p e s m args below meth c s₁ B hml hv
  obtain ⟨rfl, hsz, hP, hK, hD0, hF⟩ := hv
  have hx := B.exec
  have hb := B.bytes
  have hr := B.returns
  have hts := atoms_spec (ws := wsX6_serves) B.pre
  have hown : s.vm.findClass RX6 = some m.cls := findClass_of_methodNamed B.named
  have hlocks := B.notSynchronized
  have hiRX6 : ∀ w ∈ u_ws RX6 TX6 12, w ∈ wsX6_serves := by decide +kernel
  subst hsz
  have hD := hD0.self (sz := s.heap.size)
  generalize hAe : va_A [(mm, .inr (10, [.int 0, .int 9, .int 0, .int 99, .ref c2, .ref ps2, .ref pr, .int 0, .int 0, .int ((-1)), .ref l2, .long 0])), (c2, .inr (3, [.int 0, .ref em, .int 0]))] s.heap.size = A at hD hF ⊢
  have hA : ∀ q : Nat, s.heap.size ≤ q → A q := fun q h => by rw [← hAe]; exact Or.inr h
  have hS : va_S A s.heap s.heap [] := va_S.rf
  have hP : va_P D vwCl [(mm, .inr (10, [.int 0, .int 9, .int 0, .int 99, .ref c2, .ref ps2, .ref pr, .int 0, .int 0, .int ((-1)), .ref l2, .long 0])), (c2, .inr (3, [.int 0, .ref em, .int 0]))] s.heap := hP
  have hl := lv_entry ([.ref mm, .int p0, .int p1]) (n := 3) (Nat.le_of_ble_eq_true rfl)
  rw [lg_entry_eq]
  generalize (lg_sl ([.ref mm, .int p0, .int p1]) ++ List.replicate (3 - (lg_sl ([.ref mm, .int p0, .int p1])).length) Slot.unset).toArray = ls at hl ⊢
  have hl : lv_has ls 3 [(0, .ref mm), (1, .int p0), (2, .int p1)] := hl
  refine lv_aload_n hx hb dX6_serves_0 rfl (lv_at hl 0 rfl) ?_
  refine lv_aload_n hx hb dX6_serves_1 rfl (lv_at hl 0 rfl) ?_
  refine lv_iload_n hx hb dX6_serves_2 rfl (lv_at hl 1 rfl) ?_
  have hPc := hP.sub (ws' := [(mm, .inr (10, [.int 0, .int 9, .int 0, .int 99, .ref c2, .ref ps2, .ref pr, .int 0, .int 0, .int ((-1)), .ref l2, .long 0])), (c2, .inr (3, [.int 0, .ref em, .int 0]))]) [0, 1] rfl
  have hDc := hD.sub (ws' := [(mm, .inr (10, [.int 0, .int 9, .int 0, .int 99, .ref c2, .ref ps2, .ref pr, .int 0, .int 0, .int ((-1)), .ref l2, .long 0])), (c2, .inr (3, [.int 0, .ref em, .int 0]))]) [0, 1] (by decide) rfl
  have hKc := hK.sub (tys' := []) [] rfl
  have hFc := va_free (wc := [(mm, .inr (10, [.int 0, .int 9, .int 0, .int 99, .ref c2, .ref ps2, .ref pr, .int 0, .int 0, .int ((-1)), .ref l2, .long 0])), (c2, .inr (3, [.int 0, .ref em, .int 0]))]) hD hS hA [0, 1] rfl
  refine va_calli (va_runV (As := [.int p0]) (rest := [.ref mm]) ⟨hx, hb, hml, hown, hts⟩ (c_X6_isCar l hst em kw kb D mm p0 c2 ps2 pr l2 _) (cwV 1 hts gX6_serves_X6_isCar rfl rfl rfl (by decide +kernel) ⟨(Nat.le_of_ble_eq_true rfl), (Nat.le_of_ble_eq_true rfl)⟩) (tw_preV hF hS hFc hPc hKc hDc (va_recv hKc hPc (ci := 10) (q0 := 0) rfl rfl)) rfl rfl hl.1 rfl (lv_room (Nat.le_of_ble_eq_true rfl)) dX6_serves_3 ⟨(Nat.le_of_ble_eq_true rfl), (Nat.le_of_ble_eq_true rfl)⟩) hS (fun q _ h => hFc q h) hFc (fun r u t H locs ht hvm hw hB hz1 hk1 hS => ?_)
  obtain ⟨rfl, rfl⟩ := hw
  obtain ⟨hP, hD, hK⟩ := tw_join (wr := []) hP hD hK [0, 1] [] rfl rfl (by decide) (by decide) hk1 hFc ht hvm hB
  have hP : va_P D vwCl [(mm, .inr (10, [.int 0, .int 9, .int 0, .int 99, .ref c2, .ref ps2, .ref pr, .int 0, .int 0, .int ((-1)), .ref l2, .long 0])), (c2, .inr (3, [.int 0, .ref em, .int 0]))] _ := hP
  have hD : va_D A [(mm, .inr (10, [.int 0, .int 9, .int 0, .int 99, .ref c2, .ref ps2, .ref pr, .int 0, .int 0, .int ((-1)), .ref l2, .long 0])), (c2, .inr (3, [.int 0, .ref em, .int 0]))] := hD
  have hK : va_K D vwCl [] s := hK
  refine W.widen (k := 0) (n := 0) (Nat.le_refl _) (Nat.le_refl _) ?_
  refine W.eq (g2 := F0 m 6 ls [.int 0, .ref mm]) rfl ?_
  refine lv_if_ne (tgt := 13) hx hb dX6_serves_6 (by decide) (fun c9 => absurd c9 (by decide)) (fun c9 => ?_)
  refine lv_iconst (v := 1) hx hb dX6_serves_9 (by decide) ?_
  refine lv_goto (tgt := 26) hx hb dX6_serves_10 (by decide) ?_
  refine va_put (D := D) (ci := 10) (v := .int 1) (ty := .int) (C := RX6) (T := TX6) (N := 12) hx hb hts hiRX6 tyX6 tyX6_ok nmX6 hown hK hP hD hS 0 rfl rfl 0 (by decide) (hts (.fieldLink RX6 38 "TowerliftryModel" "thrown" "I") (by decide +kernel)) (fun _ h9 => h9) rfl (by decide +kernel) rfl rfl (Nat.le_of_ble_eq_true rfl) dX6_serves_26 (fun H locs hP hD hS => ?_)
  have hP : va_P D vwCl [(mm, .inr (10, [.int 1, .int 9, .int 0, .int 99, .ref c2, .ref ps2, .ref pr, .int 0, .int 0, .int ((-1)), .ref l2, .long 0])), (c2, .inr (3, [.int 0, .ref em, .int 0]))] _ := hP
  have hD : va_D A [(mm, .inr (10, [.int 1, .int 9, .int 0, .int 99, .ref c2, .ref ps2, .ref pr, .int 0, .int 0, .int ((-1)), .ref l2, .long 0])), (c2, .inr (3, [.int 0, .ref em, .int 0]))] := hD
  refine lv_aload_n hx hb dX6_serves_29 rfl (lv_at hl 0 rfl) ?_
  refine va_get (D := D) (ci := 10) (v := .int 1) (C := RX6) (T := TX6) (N := 12) hx hb hts hiRX6 hown hK hP 0 rfl rfl 0 (by decide) (hts (.fieldLink RX6 38 "TowerliftryModel" "thrown" "I") (by decide +kernel)) (fun _ h9 => h9) rfl dX6_serves_30 ?_
  refine lv_if_ne (tgt := 58) hx hb dX6_serves_33 (by decide) (fun c9 => ?_) (fun c9 => absurd c9 (by decide))
  refine lv_iconst (v := 0) hx hb dX6_serves_58 (by decide) ?_
  refine W.widen (k := 0) (n := 0) (Nat.le_of_ble_eq_true rfl) (Nat.le_of_ble_eq_true rfl) ?_
  have hP9 := hP.sub (ws' := [(mm, .inr (10, [.int 1, .int 9, .int 0, .int 99, .ref c2, .ref ps2, .ref pr, .int 0, .int 0, .int ((-1)), .ref l2, .long 0]))]) [0] rfl
  have hD9 := hD.sub (ws' := [(mm, .inr (10, [.int 1, .int 9, .int 0, .int 99, .ref c2, .ref ps2, .ref pr, .int 0, .int 0, .int ((-1)), .ref l2, .long 0]))]) [0] (by decide) rfl
  have hK9 := hK.sub (tys' := []) [] rfl
  exact W.zret (v := 0) (ty := .boolean) hx hb hr (by decide) (fun t ht hW => ⟨⟨0, ([(mm, .inr (10, [.int 1, .int 9, .int 0, .int 99, .ref c2, .ref ps2, .ref pr, .int 0, .int 0, .int ((-1)), .ref l2, .long 0]))], []), rfl, ⟨rfl, rfl⟩, by rw [ht]; exact hP9, va_K.moved hW.alike hK9, hD9⟩, hS.F ht⟩) hS.2.2 dX6_serves_59
set_option maxHeartbeats 4000000 in
set_option maxRecDepth 100000 in
theorem c_X6_floorOf (l : Launch) (hst : l.stackTraces = false) (em kw kb : Nat) (D : va_G) (mm : Nat) (p0 : Int32) (c2 : Nat) (ps2 : Nat) (pr : Nat) (l2 : Nat) (sz : Nat) : Met l yX6_floorOf wsX6_floorOf ({ frames := 2, cells := 0, slots := 0, locals := 43 }) (va_Pc [.ref mm, .int p0] (tw_Pre em kw kb D sz [(mm, .inr (10, [.int 0, .int 9, .int 0, .int 99, .ref c2, .ref ps2, .ref pr, .int 0, .int 0, .int ((-1)), .ref l2, .long 0])), (c2, .inr (3, [.int 0, .ref em, .int 0]))] [])) (va_Qi (fun (r : Int32) (u : tw_U) => r = 0 ∧ u = ([(mm, .inr (10, [.int 1, .int 9, .int 0, .int 99, .ref c2, .ref ps2, .ref pr, .int 0, .int 0, .int ((-1)), .ref l2, .long 0]))], [])) (tw_B D (va_A [(mm, .inr (10, [.int 0, .int 9, .int 0, .int 99, .ref c2, .ref ps2, .ref pr, .int 0, .int 0, .int ((-1)), .ref l2, .long 0])), (c2, .inr (3, [.int 0, .ref em, .int 0]))] sz)) (va_A [(mm, .inr (10, [.int 0, .int 9, .int 0, .int 99, .ref c2, .ref ps2, .ref pr, .int 0, .int 0, .int ((-1)), .ref l2, .long 0])), (c2, .inr (3, [.int 0, .ref em, .int 0]))] sz)) 0 0 (va_A [(mm, .inr (10, [.int 0, .int 9, .int 0, .int 99, .ref c2, .ref ps2, .ref pr, .int 0, .int 0, .int ((-1)), .ref l2, .long 0])), (c2, .inr (3, [.int 0, .ref em, .int 0]))] sz) := by
  refine Met.ofW (cc := cX6_floorOf) (maxL := 2) (ret := (some .int)) (by decide) rfl ?_
  intro p e s m args below meth c s₁ B hml hv
  obtain ⟨rfl, hsz, hP, hK, hD0, hF⟩ := hv
  have hx := B.exec
  have hb := B.bytes
  have hr := B.returns
  have hts := atoms_spec (ws := wsX6_floorOf) B.pre
  have hown : s.vm.findClass RX6 = some m.cls := findClass_of_methodNamed B.named
  have hlocks := B.notSynchronized
  subst hsz
  have hD := hD0.self (sz := s.heap.size)
  generalize hAe : va_A [(mm, .inr (10, [.int 0, .int 9, .int 0, .int 99, .ref c2, .ref ps2, .ref pr, .int 0, .int 0, .int ((-1)), .ref l2, .long 0])), (c2, .inr (3, [.int 0, .ref em, .int 0]))] s.heap.size = A at hD hF ⊢
  have hA : ∀ q : Nat, s.heap.size ≤ q → A q := fun q h => by rw [← hAe]; exact Or.inr h
  have hS : va_S A s.heap s.heap [] := va_S.rf
  have hP : va_P D vwCl [(mm, .inr (10, [.int 0, .int 9, .int 0, .int 99, .ref c2, .ref ps2, .ref pr, .int 0, .int 0, .int ((-1)), .ref l2, .long 0])), (c2, .inr (3, [.int 0, .ref em, .int 0]))] s.heap := hP
  have hl := lv_entry ([.ref mm, .int p0]) (n := 2) (Nat.le_of_ble_eq_true rfl)
  rw [lg_entry_eq]
  generalize (lg_sl ([.ref mm, .int p0]) ++ List.replicate (2 - (lg_sl ([.ref mm, .int p0])).length) Slot.unset).toArray = ls at hl ⊢
  have hl : lv_has ls 2 [(0, .ref mm), (1, .int p0)] := hl
  refine lv_aload_n hx hb dX6_floorOf_0 rfl (lv_at hl 0 rfl) ?_
  refine lv_iload_n hx hb dX6_floorOf_1 rfl (lv_at hl 1 rfl) ?_
  have hPc := hP.sub (ws' := [(mm, .inr (10, [.int 0, .int 9, .int 0, .int 99, .ref c2, .ref ps2, .ref pr, .int 0, .int 0, .int ((-1)), .ref l2, .long 0])), (c2, .inr (3, [.int 0, .ref em, .int 0]))]) [0, 1] rfl
  have hDc := hD.sub (ws' := [(mm, .inr (10, [.int 0, .int 9, .int 0, .int 99, .ref c2, .ref ps2, .ref pr, .int 0, .int 0, .int ((-1)), .ref l2, .long 0])), (c2, .inr (3, [.int 0, .ref em, .int 0]))]) [0, 1] (by decide) rfl
  have hKc := hK.sub (tys' := []) [] rfl
  have hFc := va_free (wc := [(mm, .inr (10, [.int 0, .int 9, .int 0, .int 99, .ref c2, .ref ps2, .ref pr, .int 0, .int 0, .int ((-1)), .ref l2, .long 0])), (c2, .inr (3, [.int 0, .ref em, .int 0]))]) hD hS hA [0, 1] rfl
  refine va_calli (va_runV (As := [.int p0]) (rest := []) ⟨hx, hb, hml, hown, hts⟩ (c_X6_isCar l hst em kw kb D mm p0 c2 ps2 pr l2 _) (cwV 1 hts gX6_floorOf_X6_isCar rfl rfl rfl (by decide +kernel) ⟨(Nat.le_of_ble_eq_true rfl), (Nat.le_of_ble_eq_true rfl)⟩) (tw_preV hF hS hFc hPc hKc hDc (va_recv hKc hPc (ci := 10) (q0 := 0) rfl rfl)) rfl rfl hl.1 rfl (lv_room (Nat.le_of_ble_eq_true rfl)) dX6_floorOf_2 ⟨(Nat.le_of_ble_eq_true rfl), (Nat.le_of_ble_eq_true rfl)⟩) hS (fun q _ h => hFc q h) hFc (fun r u t H locs ht hvm hw hB hz1 hk1 hS => ?_)
  obtain ⟨rfl, rfl⟩ := hw
  obtain ⟨hP, hD, hK⟩ := tw_join (wr := []) hP hD hK [0, 1] [] rfl rfl (by decide) (by decide) hk1 hFc ht hvm hB
  have hP : va_P D vwCl [(mm, .inr (10, [.int 0, .int 9, .int 0, .int 99, .ref c2, .ref ps2, .ref pr, .int 0, .int 0, .int ((-1)), .ref l2, .long 0])), (c2, .inr (3, [.int 0, .ref em, .int 0]))] _ := hP
  have hD : va_D A [(mm, .inr (10, [.int 0, .int 9, .int 0, .int 99, .ref c2, .ref ps2, .ref pr, .int 0, .int 0, .int ((-1)), .ref l2, .long 0])), (c2, .inr (3, [.int 0, .ref em, .int 0]))] := hD
  have hK : va_K D vwCl [] s := hK
  refine W.widen (k := 0) (n := 0) (Nat.le_refl _) (Nat.le_refl _) ?_
  refine W.eq (g2 := F0 m 5 ls [.int 0]) rfl ?_
  refine lv_if_eq (tgt := 29) hx hb dX6_floorOf_5 (by decide) (fun c9 => ?_) (fun c9 => absurd c9 (by decide))
  refine lv_aload_n hx hb dX6_floorOf_29 rfl (lv_at hl 0 rfl) ?_
  refine lv_iconst (v := 1) hx hb dX6_floorOf_30 (by decide) ?_
  have hPc := hP.sub (ws' := [(mm, .inr (10, [.int 0, .int 9, .int 0, .int 99, .ref c2, .ref ps2, .ref pr, .int 0, .int 0, .int ((-1)), .ref l2, .long 0]))]) [0] rfl
  have hDc := hD.sub (ws' := [(mm, .inr (10, [.int 0, .int 9, .int 0, .int 99, .ref c2, .ref ps2, .ref pr, .int 0, .int 0, .int ((-1)), .ref l2, .long 0]))]) [0] (by decide) rfl
  have hKc := hK.sub (tys' := []) [] rfl
  have hFc := va_free (wc := [(mm, .inr (10, [.int 0, .int 9, .int 0, .int 99, .ref c2, .ref ps2, .ref pr, .int 0, .int 0, .int ((-1)), .ref l2, .long 0]))]) hD hS hA [0] rfl
  refine va_calli (va_runV (As := [.int 1]) (rest := []) ⟨hx, hb, hml, hown, hts⟩ (c_X6_fails l hst em kw kb D mm 1 0 9 0 99 c2 ps2 pr 0 0 ((-1)) l2 0 _) (cwV 1 hts gX6_floorOf_X6_fails rfl rfl rfl (by decide +kernel) ⟨(Nat.le_of_ble_eq_true rfl), (Nat.le_of_ble_eq_true rfl)⟩) (tw_preV hF hS hFc hPc hKc hDc (va_recv hKc hPc (ci := 10) (q0 := 0) rfl rfl)) rfl rfl hl.1 rfl (lv_room (Nat.le_of_ble_eq_true rfl)) dX6_floorOf_31 ⟨(Nat.le_of_ble_eq_true rfl), (Nat.le_of_ble_eq_true rfl)⟩) hS (fun q _ h => hFc q h) hFc (fun r u t H locs ht hvm hw hB hz1 hk1 hS => ?_)
  obtain ⟨rfl, rfl⟩ := hw
  obtain ⟨hP, hD, hK⟩ := tw_join (wr := [(c2, .inr (3, [.int 0, .ref em, .int 0]))]) hP hD hK [0] [1] rfl rfl (by decide) (by decide) hk1 hFc ht hvm hB
  have hP : va_P D vwCl [(c2, .inr (3, [.int 0, .ref em, .int 0])), (mm, .inr (10, [.int 1, .int 9, .int 0, .int 99, .ref c2, .ref ps2, .ref pr, .int 0, .int 0, .int ((-1)), .ref l2, .long 0]))] _ := hP
  have hD : va_D A [(c2, .inr (3, [.int 0, .ref em, .int 0])), (mm, .inr (10, [.int 1, .int 9, .int 0, .int 99, .ref c2, .ref ps2, .ref pr, .int 0, .int 0, .int ((-1)), .ref l2, .long 0]))] := hD
  have hK : va_K D vwCl [] s := hK
  refine W.widen (k := 0) (n := 0) (Nat.le_refl _) (Nat.le_refl _) ?_
  refine W.eq (g2 := F0 m 34 ls [.int 0]) rfl ?_
  refine W.widen (k := 0) (n := 0) (Nat.le_of_ble_eq_true rfl) (Nat.le_of_ble_eq_true rfl) ?_
  have hP9 := hP.sub (ws' := [(mm, .inr (10, [.int 1, .int 9, .int 0, .int 99, .ref c2, .ref ps2, .ref pr, .int 0, .int 0, .int ((-1)), .ref l2, .long 0]))]) [1] rfl
  have hD9 := hD.sub (ws' := [(mm, .inr (10, [.int 1, .int 9, .int 0, .int 99, .ref c2, .ref ps2, .ref pr, .int 0, .int 0, .int ((-1)), .ref l2, .long 0]))]) [1] (by decide) rfl
  have hK9 := hK.sub (tys' := []) [] rfl
  exact W.iret (v := 0) hx hb hr (fun t ht hW => ⟨⟨0, ([(mm, .inr (10, [.int 1, .int 9, .int 0, .int 99, .ref c2, .ref ps2, .ref pr, .int 0, .int 0, .int ((-1)), .ref l2, .long 0]))], []), rfl, ⟨rfl, rfl⟩, by rw [ht]; exact hP9, va_K.moved hW.alike hK9, hD9⟩, hS.F ht⟩) hS.2.2 dX6_floorOf_34
set_option maxHeartbeats 4000000 in
set_option maxRecDepth 100000 in
theorem c_X6_floorByLog (l : Launch) (hst : l.stackTraces = false) (em kw kb : Nat) (D : va_G) (mm : Nat) (p0 : Int32) (c2 : Nat) (ps2 : Nat) (pr : Nat) (l2 : Nat) (sz : Nat) : Met l yX6_floorByLog wsX6_floorByLog ({ frames := 2, cells := 0, slots := 0, locals := 43 }) (va_Pc [.ref mm, .int p0] (tw_Pre em kw kb D sz [(mm, .inr (10, [.int 0, .int 9, .int 0, .int 99, .ref c2, .ref ps2, .ref pr, .int 0, .int 0, .int ((-1)), .ref l2, .long 0])), (c2, .inr (3, [.int 0, .ref em, .int 0]))] [])) (va_Qi (fun (r : Int32) (u : tw_U) => r = 0 ∧ u = ([(mm, .inr (10, [.int 1, .int 9, .int 0, .int 99, .ref c2, .ref ps2, .ref pr, .int 0, .int 0, .int ((-1)), .ref l2, .long 0]))], [])) (tw_B D (va_A [(mm, .inr (10, [.int 0, .int 9, .int 0, .int 99, .ref c2, .ref ps2, .ref pr, .int 0, .int 0, .int ((-1)), .ref l2, .long 0])), (c2, .inr (3, [.int 0, .ref em, .int 0]))] sz)) (va_A [(mm, .inr (10, [.int 0, .int 9, .int 0, .int 99, .ref c2, .ref ps2, .ref pr, .int 0, .int 0, .int ((-1)), .ref l2, .long 0])), (c2, .inr (3, [.int 0, .ref em, .int 0]))] sz)) 0 0 (va_A [(mm, .inr (10, [.int 0, .int 9, .int 0, .int 99, .ref c2, .ref ps2, .ref pr, .int 0, .int 0, .int ((-1)), .ref l2, .long 0])), (c2, .inr (3, [.int 0, .ref em, .int 0]))] sz) := by
  refine Met.ofW (cc := cX6_floorByLog) (maxL := 5) (ret := (some .int)) (by decide) rfl ?_
  intro p e s m args below meth c s₁ B hml hv
  obtain ⟨rfl, hsz, hP, hK, hD0, hF⟩ := hv
  have hx := B.exec
  have hb := B.bytes
  have hr := B.returns
  have hts := atoms_spec (ws := wsX6_floorByLog) B.pre
  have hown : s.vm.findClass RX6 = some m.cls := findClass_of_methodNamed B.named
  have hlocks := B.notSynchronized
  subst hsz
  have hD := hD0.self (sz := s.heap.size)
  generalize hAe : va_A [(mm, .inr (10, [.int 0, .int 9, .int 0, .int 99, .ref c2, .ref ps2, .ref pr, .int 0, .int 0, .int ((-1)), .ref l2, .long 0])), (c2, .inr (3, [.int 0, .ref em, .int 0]))] s.heap.size = A at hD hF ⊢
  have hA : ∀ q : Nat, s.heap.size ≤ q → A q := fun q h => by rw [← hAe]; exact Or.inr h
  have hS : va_S A s.heap s.heap [] := va_S.rf
  have hP : va_P D vwCl [(mm, .inr (10, [.int 0, .int 9, .int 0, .int 99, .ref c2, .ref ps2, .ref pr, .int 0, .int 0, .int ((-1)), .ref l2, .long 0])), (c2, .inr (3, [.int 0, .ref em, .int 0]))] s.heap := hP
  have hl := lv_entry ([.ref mm, .int p0]) (n := 5) (Nat.le_of_ble_eq_true rfl)
  rw [lg_entry_eq]
  generalize (lg_sl ([.ref mm, .int p0]) ++ List.replicate (5 - (lg_sl ([.ref mm, .int p0])).length) Slot.unset).toArray = ls at hl ⊢
  have hl : lv_has ls 5 [(0, .ref mm), (1, .int p0)] := hl
  refine lv_aload_n hx hb dX6_floorByLog_0 rfl (lv_at hl 0 rfl) ?_
  refine lv_iload_n hx hb dX6_floorByLog_1 rfl (lv_at hl 1 rfl) ?_
  have hPc := hP.sub (ws' := [(mm, .inr (10, [.int 0, .int 9, .int 0, .int 99, .ref c2, .ref ps2, .ref pr, .int 0, .int 0, .int ((-1)), .ref l2, .long 0])), (c2, .inr (3, [.int 0, .ref em, .int 0]))]) [0, 1] rfl
  have hDc := hD.sub (ws' := [(mm, .inr (10, [.int 0, .int 9, .int 0, .int 99, .ref c2, .ref ps2, .ref pr, .int 0, .int 0, .int ((-1)), .ref l2, .long 0])), (c2, .inr (3, [.int 0, .ref em, .int 0]))]) [0, 1] (by decide) rfl
  have hKc := hK.sub (tys' := []) [] rfl
  have hFc := va_free (wc := [(mm, .inr (10, [.int 0, .int 9, .int 0, .int 99, .ref c2, .ref ps2, .ref pr, .int 0, .int 0, .int ((-1)), .ref l2, .long 0])), (c2, .inr (3, [.int 0, .ref em, .int 0]))]) hD hS hA [0, 1] rfl
  refine va_calli (va_runV (As := [.int p0]) (rest := []) ⟨hx, hb, hml, hown, hts⟩ (c_X6_isCar l hst em kw kb D mm p0 c2 ps2 pr l2 _) (cwV 1 hts gX6_floorByLog_X6_isCar rfl rfl rfl (by decide +kernel) ⟨(Nat.le_of_ble_eq_true rfl), (Nat.le_of_ble_eq_true rfl)⟩) (tw_preV hF hS hFc hPc hKc hDc (va_recv hKc hPc (ci := 10) (q0 := 0) rfl rfl)) rfl rfl hl.1 rfl (lv_room (Nat.le_of_ble_eq_true rfl)) dX6_floorByLog_2 ⟨(Nat.le_of_ble_eq_true rfl), (Nat.le_of_ble_eq_true rfl)⟩) hS (fun q _ h => hFc q h) hFc (fun r u t H locs ht hvm hw hB hz1 hk1 hS => ?_)
  obtain ⟨rfl, rfl⟩ := hw
  obtain ⟨hP, hD, hK⟩ := tw_join (wr := []) hP hD hK [0, 1] [] rfl rfl (by decide) (by decide) hk1 hFc ht hvm hB
  have hP : va_P D vwCl [(mm, .inr (10, [.int 0, .int 9, .int 0, .int 99, .ref c2, .ref ps2, .ref pr, .int 0, .int 0, .int ((-1)), .ref l2, .long 0])), (c2, .inr (3, [.int 0, .ref em, .int 0]))] _ := hP
  have hD : va_D A [(mm, .inr (10, [.int 0, .int 9, .int 0, .int 99, .ref c2, .ref ps2, .ref pr, .int 0, .int 0, .int ((-1)), .ref l2, .long 0])), (c2, .inr (3, [.int 0, .ref em, .int 0]))] := hD
  have hK : va_K D vwCl [] s := hK
  refine W.widen (k := 0) (n := 0) (Nat.le_refl _) (Nat.le_refl _) ?_
  refine W.eq (g2 := F0 m 5 ls [.int 0]) rfl ?_
  refine lv_if_ne (tgt := 14) hx hb dX6_floorByLog_5 (by decide) (fun c9 => absurd c9 (by decide)) (fun c9 => ?_)
  refine lv_aload_n hx hb dX6_floorByLog_8 rfl (lv_at hl 0 rfl) ?_
  refine lv_iconst (v := 1) hx hb dX6_floorByLog_9 (by decide) ?_
  have hPc := hP.sub (ws' := [(mm, .inr (10, [.int 0, .int 9, .int 0, .int 99, .ref c2, .ref ps2, .ref pr, .int 0, .int 0, .int ((-1)), .ref l2, .long 0]))]) [0] rfl
  have hDc := hD.sub (ws' := [(mm, .inr (10, [.int 0, .int 9, .int 0, .int 99, .ref c2, .ref ps2, .ref pr, .int 0, .int 0, .int ((-1)), .ref l2, .long 0]))]) [0] (by decide) rfl
  have hKc := hK.sub (tys' := []) [] rfl
  have hFc := va_free (wc := [(mm, .inr (10, [.int 0, .int 9, .int 0, .int 99, .ref c2, .ref ps2, .ref pr, .int 0, .int 0, .int ((-1)), .ref l2, .long 0]))]) hD hS hA [0] rfl
  refine va_calli (va_runV (As := [.int 1]) (rest := []) ⟨hx, hb, hml, hown, hts⟩ (c_X6_fails l hst em kw kb D mm 1 0 9 0 99 c2 ps2 pr 0 0 ((-1)) l2 0 _) (cwV 1 hts gX6_floorByLog_X6_fails rfl rfl rfl (by decide +kernel) ⟨(Nat.le_of_ble_eq_true rfl), (Nat.le_of_ble_eq_true rfl)⟩) (tw_preV hF hS hFc hPc hKc hDc (va_recv hKc hPc (ci := 10) (q0 := 0) rfl rfl)) rfl rfl hl.1 rfl (lv_room (Nat.le_of_ble_eq_true rfl)) dX6_floorByLog_10 ⟨(Nat.le_of_ble_eq_true rfl), (Nat.le_of_ble_eq_true rfl)⟩) hS (fun q _ h => hFc q h) hFc (fun r u t H locs ht hvm hw hB hz1 hk1 hS => ?_)
  obtain ⟨rfl, rfl⟩ := hw
  obtain ⟨hP, hD, hK⟩ := tw_join (wr := [(c2, .inr (3, [.int 0, .ref em, .int 0]))]) hP hD hK [0] [1] rfl rfl (by decide) (by decide) hk1 hFc ht hvm hB
  have hP : va_P D vwCl [(c2, .inr (3, [.int 0, .ref em, .int 0])), (mm, .inr (10, [.int 1, .int 9, .int 0, .int 99, .ref c2, .ref ps2, .ref pr, .int 0, .int 0, .int ((-1)), .ref l2, .long 0]))] _ := hP
  have hD : va_D A [(c2, .inr (3, [.int 0, .ref em, .int 0])), (mm, .inr (10, [.int 1, .int 9, .int 0, .int 99, .ref c2, .ref ps2, .ref pr, .int 0, .int 0, .int ((-1)), .ref l2, .long 0]))] := hD
  have hK : va_K D vwCl [] s := hK
  refine W.widen (k := 0) (n := 0) (Nat.le_refl _) (Nat.le_refl _) ?_
  refine W.eq (g2 := F0 m 13 ls [.int 0]) rfl ?_
  refine W.widen (k := 0) (n := 0) (Nat.le_of_ble_eq_true rfl) (Nat.le_of_ble_eq_true rfl) ?_
  have hP9 := hP.sub (ws' := [(mm, .inr (10, [.int 1, .int 9, .int 0, .int 99, .ref c2, .ref ps2, .ref pr, .int 0, .int 0, .int ((-1)), .ref l2, .long 0]))]) [1] rfl
  have hD9 := hD.sub (ws' := [(mm, .inr (10, [.int 1, .int 9, .int 0, .int 99, .ref c2, .ref ps2, .ref pr, .int 0, .int 0, .int ((-1)), .ref l2, .long 0]))]) [1] (by decide) rfl
  have hK9 := hK.sub (tys' := []) [] rfl
  exact W.iret (v := 0) hx hb hr (fun t ht hW => ⟨⟨0, ([(mm, .inr (10, [.int 1, .int 9, .int 0, .int 99, .ref c2, .ref ps2, .ref pr, .int 0, .int 0, .int ((-1)), .ref l2, .long 0]))], []), rfl, ⟨rfl, rfl⟩, by rw [ht]; exact hP9, va_K.moved hW.alike hK9, hD9⟩, hS.F ht⟩) hS.2.2 dX6_floorByLog_13
set_option maxHeartbeats 4000000 in
set_option maxRecDepth 100000 in
theorem c_X6_directionOf (l : Launch) (hst : l.stackTraces = false) (em kw kb : Nat) (D : va_G) (mm : Nat) (p0 : Int32) (c2 : Nat) (ps2 : Nat) (pr : Nat) (l2 : Nat) (sz : Nat) : Met l yX6_directionOf wsX6_directionOf ({ frames := 2, cells := 0, slots := 0, locals := 43 }) (va_Pc [.ref mm, .int p0] (tw_Pre em kw kb D sz [(mm, .inr (10, [.int 0, .int 9, .int 0, .int 99, .ref c2, .ref ps2, .ref pr, .int 0, .int 0, .int ((-1)), .ref l2, .long 0])), (c2, .inr (3, [.int 0, .ref em, .int 0]))] [])) (va_Qi (fun (r : Int32) (u : tw_U) => r = 32 ∧ u = ([(mm, .inr (10, [.int 1, .int 9, .int 0, .int 99, .ref c2, .ref ps2, .ref pr, .int 0, .int 0, .int ((-1)), .ref l2, .long 0]))], [])) (tw_B D (va_A [(mm, .inr (10, [.int 0, .int 9, .int 0, .int 99, .ref c2, .ref ps2, .ref pr, .int 0, .int 0, .int ((-1)), .ref l2, .long 0])), (c2, .inr (3, [.int 0, .ref em, .int 0]))] sz)) (va_A [(mm, .inr (10, [.int 0, .int 9, .int 0, .int 99, .ref c2, .ref ps2, .ref pr, .int 0, .int 0, .int ((-1)), .ref l2, .long 0])), (c2, .inr (3, [.int 0, .ref em, .int 0]))] sz)) 0 0 (va_A [(mm, .inr (10, [.int 0, .int 9, .int 0, .int 99, .ref c2, .ref ps2, .ref pr, .int 0, .int 0, .int ((-1)), .ref l2, .long 0])), (c2, .inr (3, [.int 0, .ref em, .int 0]))] sz) := by
  refine Met.ofW (cc := cX6_directionOf) (maxL := 3) (ret := (some .char)) (by decide) rfl ?_
  intro p e s m args below meth c s₁ B hml hv
  obtain ⟨rfl, hsz, hP, hK, hD0, hF⟩ := hv
  have hx := B.exec
  have hb := B.bytes
  have hr := B.returns
  have hts := atoms_spec (ws := wsX6_directionOf) B.pre
  have hown : s.vm.findClass RX6 = some m.cls := findClass_of_methodNamed B.named
  have hlocks := B.notSynchronized
  have hiRX6 : ∀ w ∈ u_ws RX6 TX6 12, w ∈ wsX6_directionOf := by decide +kernel
  subst hsz
  have hD := hD0.self (sz := s.heap.size)
  generalize hAe : va_A [(mm, .inr (10, [.int 0, .int 9, .int 0, .int 99, .ref c2, .ref ps2, .ref pr, .int 0, .int 0, .int ((-1)), .ref l2, .long 0])), (c2, .inr (3, [.int 0, .ref em, .int 0]))] s.heap.size = A at hD hF ⊢
  have hA : ∀ q : Nat, s.heap.size ≤ q → A q := fun q h => by rw [← hAe]; exact Or.inr h
  have hS : va_S A s.heap s.heap [] := va_S.rf
  have hP : va_P D vwCl [(mm, .inr (10, [.int 0, .int 9, .int 0, .int 99, .ref c2, .ref ps2, .ref pr, .int 0, .int 0, .int ((-1)), .ref l2, .long 0])), (c2, .inr (3, [.int 0, .ref em, .int 0]))] s.heap := hP
  have hl := lv_entry ([.ref mm, .int p0]) (n := 3) (Nat.le_of_ble_eq_true rfl)
  rw [lg_entry_eq]
  generalize (lg_sl ([.ref mm, .int p0]) ++ List.replicate (3 - (lg_sl ([.ref mm, .int p0])).length) Slot.unset).toArray = ls at hl ⊢
  have hl : lv_has ls 3 [(0, .ref mm), (1, .int p0)] := hl
  refine lv_aload_n hx hb dX6_directionOf_0 rfl (lv_at hl 0 rfl) ?_
  refine lv_aload_n hx hb dX6_directionOf_1 rfl (lv_at hl 0 rfl) ?_
  refine lv_iload_n hx hb dX6_directionOf_2 rfl (lv_at hl 1 rfl) ?_
  have hPc := hP.sub (ws' := [(mm, .inr (10, [.int 0, .int 9, .int 0, .int 99, .ref c2, .ref ps2, .ref pr, .int 0, .int 0, .int ((-1)), .ref l2, .long 0])), (c2, .inr (3, [.int 0, .ref em, .int 0]))]) [0, 1] rfl
  have hDc := hD.sub (ws' := [(mm, .inr (10, [.int 0, .int 9, .int 0, .int 99, .ref c2, .ref ps2, .ref pr, .int 0, .int 0, .int ((-1)), .ref l2, .long 0])), (c2, .inr (3, [.int 0, .ref em, .int 0]))]) [0, 1] (by decide) rfl
  have hKc := hK.sub (tys' := []) [] rfl
  have hFc := va_free (wc := [(mm, .inr (10, [.int 0, .int 9, .int 0, .int 99, .ref c2, .ref ps2, .ref pr, .int 0, .int 0, .int ((-1)), .ref l2, .long 0])), (c2, .inr (3, [.int 0, .ref em, .int 0]))]) hD hS hA [0, 1] rfl
  refine va_calli (va_runV (As := [.int p0]) (rest := [.ref mm]) ⟨hx, hb, hml, hown, hts⟩ (c_X6_isCar l hst em kw kb D mm p0 c2 ps2 pr l2 _) (cwV 1 hts gX6_directionOf_X6_isCar rfl rfl rfl (by decide +kernel) ⟨(Nat.le_of_ble_eq_true rfl), (Nat.le_of_ble_eq_true rfl)⟩) (tw_preV hF hS hFc hPc hKc hDc (va_recv hKc hPc (ci := 10) (q0 := 0) rfl rfl)) rfl rfl hl.1 rfl (lv_room (Nat.le_of_ble_eq_true rfl)) dX6_directionOf_3 ⟨(Nat.le_of_ble_eq_true rfl), (Nat.le_of_ble_eq_true rfl)⟩) hS (fun q _ h => hFc q h) hFc (fun r u t H locs ht hvm hw hB hz1 hk1 hS => ?_)
  obtain ⟨rfl, rfl⟩ := hw
  obtain ⟨hP, hD, hK⟩ := tw_join (wr := []) hP hD hK [0, 1] [] rfl rfl (by decide) (by decide) hk1 hFc ht hvm hB
  have hP : va_P D vwCl [(mm, .inr (10, [.int 0, .int 9, .int 0, .int 99, .ref c2, .ref ps2, .ref pr, .int 0, .int 0, .int ((-1)), .ref l2, .long 0])), (c2, .inr (3, [.int 0, .ref em, .int 0]))] _ := hP
  have hD : va_D A [(mm, .inr (10, [.int 0, .int 9, .int 0, .int 99, .ref c2, .ref ps2, .ref pr, .int 0, .int 0, .int ((-1)), .ref l2, .long 0])), (c2, .inr (3, [.int 0, .ref em, .int 0]))] := hD
  have hK : va_K D vwCl [] s := hK
  refine W.widen (k := 0) (n := 0) (Nat.le_refl _) (Nat.le_refl _) ?_
  refine W.eq (g2 := F0 m 6 ls [.int 0, .ref mm]) rfl ?_
  refine lv_if_eq (tgt := 13) hx hb dX6_directionOf_6 (by decide) (fun c9 => ?_) (fun c9 => absurd c9 (by decide))
  refine lv_iconst (v := 1) hx hb dX6_directionOf_13 (by decide) ?_
  refine va_put (D := D) (ci := 10) (v := .int 1) (ty := .int) (C := RX6) (T := TX6) (N := 12) hx hb hts hiRX6 tyX6 tyX6_ok nmX6 hown hK hP hD hS 0 rfl rfl 0 (by decide) (hts (.fieldLink RX6 38 "TowerliftryModel" "thrown" "I") (by decide +kernel)) (fun _ h9 => h9) rfl (by decide +kernel) rfl rfl (Nat.le_of_ble_eq_true rfl) dX6_directionOf_14 (fun H locs hP hD hS => ?_)
  have hP : va_P D vwCl [(mm, .inr (10, [.int 1, .int 9, .int 0, .int 99, .ref c2, .ref ps2, .ref pr, .int 0, .int 0, .int ((-1)), .ref l2, .long 0])), (c2, .inr (3, [.int 0, .ref em, .int 0]))] _ := hP
  have hD : va_D A [(mm, .inr (10, [.int 1, .int 9, .int 0, .int 99, .ref c2, .ref ps2, .ref pr, .int 0, .int 0, .int ((-1)), .ref l2, .long 0])), (c2, .inr (3, [.int 0, .ref em, .int 0]))] := hD
  refine lv_aload_n hx hb dX6_directionOf_17 rfl (lv_at hl 0 rfl) ?_
  refine va_get (D := D) (ci := 10) (v := .int 1) (C := RX6) (T := TX6) (N := 12) hx hb hts hiRX6 hown hK hP 0 rfl rfl 0 (by decide) (hts (.fieldLink RX6 38 "TowerliftryModel" "thrown" "I") (by decide +kernel)) (fun _ h9 => h9) rfl dX6_directionOf_18 ?_
  refine lv_if_le (tgt := 27) hx hb dX6_directionOf_21 (by decide) (fun c9 => absurd c9 (by decide)) (fun c9 => ?_)
  refine lv_bipush (v := 32) hx hb dX6_directionOf_24 (by decide) ?_
  refine W.widen (k := 0) (n := 0) (Nat.le_of_ble_eq_true rfl) (Nat.le_of_ble_eq_true rfl) ?_
  have hP9 := hP.sub (ws' := [(mm, .inr (10, [.int 1, .int 9, .int 0, .int 99, .ref c2, .ref ps2, .ref pr, .int 0, .int 0, .int ((-1)), .ref l2, .long 0]))]) [0] rfl
  have hD9 := hD.sub (ws' := [(mm, .inr (10, [.int 1, .int 9, .int 0, .int 99, .ref c2, .ref ps2, .ref pr, .int 0, .int 0, .int ((-1)), .ref l2, .long 0]))]) [0] (by decide) rfl
  have hK9 := hK.sub (tys' := []) [] rfl
  exact W.zret (v := 32) (ty := .char) hx hb hr (by decide) (fun t ht hW => ⟨⟨32, ([(mm, .inr (10, [.int 1, .int 9, .int 0, .int 99, .ref c2, .ref ps2, .ref pr, .int 0, .int 0, .int ((-1)), .ref l2, .long 0]))], []), rfl, ⟨rfl, rfl⟩, by rw [ht]; exact hP9, va_K.moved hW.alike hK9, hD9⟩, hS.F ht⟩) hS.2.2 dX6_directionOf_26
set_option maxHeartbeats 4000000 in
set_option maxRecDepth 100000 in
theorem c_X6_isOpen (l : Launch) (hst : l.stackTraces = false) (em kw kb : Nat) (D : va_G) (mm : Nat) (p0 : Int32) (c2 : Nat) (ps2 : Nat) (pr : Nat) (l2 : Nat) (sz : Nat) : Met l yX6_isOpen wsX6_isOpen ({ frames := 2, cells := 0, slots := 0, locals := 43 }) (va_Pc [.ref mm, .int p0] (tw_Pre em kw kb D sz [(mm, .inr (10, [.int 0, .int 9, .int 0, .int 99, .ref c2, .ref ps2, .ref pr, .int 0, .int 0, .int ((-1)), .ref l2, .long 0])), (c2, .inr (3, [.int 0, .ref em, .int 0]))] [])) (va_Qi (fun (r : Int32) (u : tw_U) => r = 0 ∧ u = ([(mm, .inr (10, [.int 1, .int 9, .int 0, .int 99, .ref c2, .ref ps2, .ref pr, .int 0, .int 0, .int ((-1)), .ref l2, .long 0]))], [])) (tw_B D (va_A [(mm, .inr (10, [.int 0, .int 9, .int 0, .int 99, .ref c2, .ref ps2, .ref pr, .int 0, .int 0, .int ((-1)), .ref l2, .long 0])), (c2, .inr (3, [.int 0, .ref em, .int 0]))] sz)) (va_A [(mm, .inr (10, [.int 0, .int 9, .int 0, .int 99, .ref c2, .ref ps2, .ref pr, .int 0, .int 0, .int ((-1)), .ref l2, .long 0])), (c2, .inr (3, [.int 0, .ref em, .int 0]))] sz)) 0 0 (va_A [(mm, .inr (10, [.int 0, .int 9, .int 0, .int 99, .ref c2, .ref ps2, .ref pr, .int 0, .int 0, .int ((-1)), .ref l2, .long 0])), (c2, .inr (3, [.int 0, .ref em, .int 0]))] sz) := by
  refine Met.ofW (cc := cX6_isOpen) (maxL := 2) (ret := (some .boolean)) (by decide) rfl ?_
  intro p e s m args below meth c s₁ B hml hv
  obtain ⟨rfl, hsz, hP, hK, hD0, hF⟩ := hv
  have hx := B.exec
  have hb := B.bytes
  have hr := B.returns
  have hts := atoms_spec (ws := wsX6_isOpen) B.pre
  have hown : s.vm.findClass RX6 = some m.cls := findClass_of_methodNamed B.named
  have hlocks := B.notSynchronized
  have hiRX6 : ∀ w ∈ u_ws RX6 TX6 12, w ∈ wsX6_isOpen := by decide +kernel
  subst hsz
  have hD := hD0.self (sz := s.heap.size)
  generalize hAe : va_A [(mm, .inr (10, [.int 0, .int 9, .int 0, .int 99, .ref c2, .ref ps2, .ref pr, .int 0, .int 0, .int ((-1)), .ref l2, .long 0])), (c2, .inr (3, [.int 0, .ref em, .int 0]))] s.heap.size = A at hD hF ⊢
  have hA : ∀ q : Nat, s.heap.size ≤ q → A q := fun q h => by rw [← hAe]; exact Or.inr h
  have hS : va_S A s.heap s.heap [] := va_S.rf
  have hP : va_P D vwCl [(mm, .inr (10, [.int 0, .int 9, .int 0, .int 99, .ref c2, .ref ps2, .ref pr, .int 0, .int 0, .int ((-1)), .ref l2, .long 0])), (c2, .inr (3, [.int 0, .ref em, .int 0]))] s.heap := hP
  have hl := lv_entry ([.ref mm, .int p0]) (n := 2) (Nat.le_of_ble_eq_true rfl)
  rw [lg_entry_eq]
  generalize (lg_sl ([.ref mm, .int p0]) ++ List.replicate (2 - (lg_sl ([.ref mm, .int p0])).length) Slot.unset).toArray = ls at hl ⊢
  have hl : lv_has ls 2 [(0, .ref mm), (1, .int p0)] := hl
  refine lv_aload_n hx hb dX6_isOpen_0 rfl (lv_at hl 0 rfl) ?_
  refine lv_aload_n hx hb dX6_isOpen_1 rfl (lv_at hl 0 rfl) ?_
  refine lv_iload_n hx hb dX6_isOpen_2 rfl (lv_at hl 1 rfl) ?_
  have hPc := hP.sub (ws' := [(mm, .inr (10, [.int 0, .int 9, .int 0, .int 99, .ref c2, .ref ps2, .ref pr, .int 0, .int 0, .int ((-1)), .ref l2, .long 0])), (c2, .inr (3, [.int 0, .ref em, .int 0]))]) [0, 1] rfl
  have hDc := hD.sub (ws' := [(mm, .inr (10, [.int 0, .int 9, .int 0, .int 99, .ref c2, .ref ps2, .ref pr, .int 0, .int 0, .int ((-1)), .ref l2, .long 0])), (c2, .inr (3, [.int 0, .ref em, .int 0]))]) [0, 1] (by decide) rfl
  have hKc := hK.sub (tys' := []) [] rfl
  have hFc := va_free (wc := [(mm, .inr (10, [.int 0, .int 9, .int 0, .int 99, .ref c2, .ref ps2, .ref pr, .int 0, .int 0, .int ((-1)), .ref l2, .long 0])), (c2, .inr (3, [.int 0, .ref em, .int 0]))]) hD hS hA [0, 1] rfl
  refine va_calli (va_runV (As := [.int p0]) (rest := [.ref mm]) ⟨hx, hb, hml, hown, hts⟩ (c_X6_isCar l hst em kw kb D mm p0 c2 ps2 pr l2 _) (cwV 1 hts gX6_isOpen_X6_isCar rfl rfl rfl (by decide +kernel) ⟨(Nat.le_of_ble_eq_true rfl), (Nat.le_of_ble_eq_true rfl)⟩) (tw_preV hF hS hFc hPc hKc hDc (va_recv hKc hPc (ci := 10) (q0 := 0) rfl rfl)) rfl rfl hl.1 rfl (lv_room (Nat.le_of_ble_eq_true rfl)) dX6_isOpen_3 ⟨(Nat.le_of_ble_eq_true rfl), (Nat.le_of_ble_eq_true rfl)⟩) hS (fun q _ h => hFc q h) hFc (fun r u t H locs ht hvm hw hB hz1 hk1 hS => ?_)
  obtain ⟨rfl, rfl⟩ := hw
  obtain ⟨hP, hD, hK⟩ := tw_join (wr := []) hP hD hK [0, 1] [] rfl rfl (by decide) (by decide) hk1 hFc ht hvm hB
  have hP : va_P D vwCl [(mm, .inr (10, [.int 0, .int 9, .int 0, .int 99, .ref c2, .ref ps2, .ref pr, .int 0, .int 0, .int ((-1)), .ref l2, .long 0])), (c2, .inr (3, [.int 0, .ref em, .int 0]))] _ := hP
  have hD : va_D A [(mm, .inr (10, [.int 0, .int 9, .int 0, .int 99, .ref c2, .ref ps2, .ref pr, .int 0, .int 0, .int ((-1)), .ref l2, .long 0])), (c2, .inr (3, [.int 0, .ref em, .int 0]))] := hD
  have hK : va_K D vwCl [] s := hK
  refine W.widen (k := 0) (n := 0) (Nat.le_refl _) (Nat.le_refl _) ?_
  refine W.eq (g2 := F0 m 6 ls [.int 0, .ref mm]) rfl ?_
  refine lv_if_eq (tgt := 13) hx hb dX6_isOpen_6 (by decide) (fun c9 => ?_) (fun c9 => absurd c9 (by decide))
  refine lv_iconst (v := 1) hx hb dX6_isOpen_13 (by decide) ?_
  refine va_put (D := D) (ci := 10) (v := .int 1) (ty := .int) (C := RX6) (T := TX6) (N := 12) hx hb hts hiRX6 tyX6 tyX6_ok nmX6 hown hK hP hD hS 0 rfl rfl 0 (by decide) (hts (.fieldLink RX6 38 "TowerliftryModel" "thrown" "I") (by decide +kernel)) (fun _ h9 => h9) rfl (by decide +kernel) rfl rfl (Nat.le_of_ble_eq_true rfl) dX6_isOpen_14 (fun H locs hP hD hS => ?_)
  have hP : va_P D vwCl [(mm, .inr (10, [.int 1, .int 9, .int 0, .int 99, .ref c2, .ref ps2, .ref pr, .int 0, .int 0, .int ((-1)), .ref l2, .long 0])), (c2, .inr (3, [.int 0, .ref em, .int 0]))] _ := hP
  have hD : va_D A [(mm, .inr (10, [.int 1, .int 9, .int 0, .int 99, .ref c2, .ref ps2, .ref pr, .int 0, .int 0, .int ((-1)), .ref l2, .long 0])), (c2, .inr (3, [.int 0, .ref em, .int 0]))] := hD
  refine lv_aload_n hx hb dX6_isOpen_17 rfl (lv_at hl 0 rfl) ?_
  refine va_get (D := D) (ci := 10) (v := .int 1) (C := RX6) (T := TX6) (N := 12) hx hb hts hiRX6 hown hK hP 0 rfl rfl 0 (by decide) (hts (.fieldLink RX6 38 "TowerliftryModel" "thrown" "I") (by decide +kernel)) (fun _ h9 => h9) rfl dX6_isOpen_18 ?_
  refine lv_if_ne (tgt := 45) hx hb dX6_isOpen_21 (by decide) (fun c9 => ?_) (fun c9 => absurd c9 (by decide))
  refine lv_iconst (v := 0) hx hb dX6_isOpen_45 (by decide) ?_
  refine W.widen (k := 0) (n := 0) (Nat.le_of_ble_eq_true rfl) (Nat.le_of_ble_eq_true rfl) ?_
  have hP9 := hP.sub (ws' := [(mm, .inr (10, [.int 1, .int 9, .int 0, .int 99, .ref c2, .ref ps2, .ref pr, .int 0, .int 0, .int ((-1)), .ref l2, .long 0]))]) [0] rfl
  have hD9 := hD.sub (ws' := [(mm, .inr (10, [.int 1, .int 9, .int 0, .int 99, .ref c2, .ref ps2, .ref pr, .int 0, .int 0, .int ((-1)), .ref l2, .long 0]))]) [0] (by decide) rfl
  have hK9 := hK.sub (tys' := []) [] rfl
  exact W.zret (v := 0) (ty := .boolean) hx hb hr (by decide) (fun t ht hW => ⟨⟨0, ([(mm, .inr (10, [.int 1, .int 9, .int 0, .int 99, .ref c2, .ref ps2, .ref pr, .int 0, .int 0, .int ((-1)), .ref l2, .long 0]))], []), rfl, ⟨rfl, rfl⟩, by rw [ht]; exact hP9, va_K.moved hW.alike hK9, hD9⟩, hS.F ht⟩) hS.2.2 dX6_isOpen_46
set_option maxHeartbeats 4000000 in
set_option maxRecDepth 100000 in
theorem c_X6_load (l : Launch) (hst : l.stackTraces = false) (em kw kb : Nat) (D : va_G) (mm : Nat) (p0 : Int32) (c2 : Nat) (ps2 : Nat) (pr : Nat) (l2 : Nat) (sz : Nat) : Met l yX6_load wsX6_load ({ frames := 2, cells := 0, slots := 0, locals := 43 }) (va_Pc [.ref mm, .int p0] (tw_Pre em kw kb D sz [(mm, .inr (10, [.int 0, .int 9, .int 0, .int 99, .ref c2, .ref ps2, .ref pr, .int 0, .int 0, .int ((-1)), .ref l2, .long 0])), (c2, .inr (3, [.int 0, .ref em, .int 0]))] [])) (va_Qi (fun (r : Int32) (u : tw_U) => r = 0 ∧ u = ([(mm, .inr (10, [.int 1, .int 9, .int 0, .int 99, .ref c2, .ref ps2, .ref pr, .int 0, .int 0, .int ((-1)), .ref l2, .long 0]))], [])) (tw_B D (va_A [(mm, .inr (10, [.int 0, .int 9, .int 0, .int 99, .ref c2, .ref ps2, .ref pr, .int 0, .int 0, .int ((-1)), .ref l2, .long 0])), (c2, .inr (3, [.int 0, .ref em, .int 0]))] sz)) (va_A [(mm, .inr (10, [.int 0, .int 9, .int 0, .int 99, .ref c2, .ref ps2, .ref pr, .int 0, .int 0, .int ((-1)), .ref l2, .long 0])), (c2, .inr (3, [.int 0, .ref em, .int 0]))] sz)) 0 0 (va_A [(mm, .inr (10, [.int 0, .int 9, .int 0, .int 99, .ref c2, .ref ps2, .ref pr, .int 0, .int 0, .int ((-1)), .ref l2, .long 0])), (c2, .inr (3, [.int 0, .ref em, .int 0]))] sz) := by
  refine Met.ofW (cc := cX6_load) (maxL := 2) (ret := (some .int)) (by decide) rfl ?_
  intro p e s m args below meth c s₁ B hml hv
  obtain ⟨rfl, hsz, hP, hK, hD0, hF⟩ := hv
  have hx := B.exec
  have hb := B.bytes
  have hr := B.returns
  have hts := atoms_spec (ws := wsX6_load) B.pre
  have hown : s.vm.findClass RX6 = some m.cls := findClass_of_methodNamed B.named
  have hlocks := B.notSynchronized
  subst hsz
  have hD := hD0.self (sz := s.heap.size)
  generalize hAe : va_A [(mm, .inr (10, [.int 0, .int 9, .int 0, .int 99, .ref c2, .ref ps2, .ref pr, .int 0, .int 0, .int ((-1)), .ref l2, .long 0])), (c2, .inr (3, [.int 0, .ref em, .int 0]))] s.heap.size = A at hD hF ⊢
  have hA : ∀ q : Nat, s.heap.size ≤ q → A q := fun q h => by rw [← hAe]; exact Or.inr h
  have hS : va_S A s.heap s.heap [] := va_S.rf
  have hP : va_P D vwCl [(mm, .inr (10, [.int 0, .int 9, .int 0, .int 99, .ref c2, .ref ps2, .ref pr, .int 0, .int 0, .int ((-1)), .ref l2, .long 0])), (c2, .inr (3, [.int 0, .ref em, .int 0]))] s.heap := hP
  have hl := lv_entry ([.ref mm, .int p0]) (n := 2) (Nat.le_of_ble_eq_true rfl)
  rw [lg_entry_eq]
  generalize (lg_sl ([.ref mm, .int p0]) ++ List.replicate (2 - (lg_sl ([.ref mm, .int p0])).length) Slot.unset).toArray = ls at hl ⊢
  have hl : lv_has ls 2 [(0, .ref mm), (1, .int p0)] := hl
  refine lv_aload_n hx hb dX6_load_0 rfl (lv_at hl 0 rfl) ?_
  refine lv_iload_n hx hb dX6_load_1 rfl (lv_at hl 1 rfl) ?_
  have hPc := hP.sub (ws' := [(mm, .inr (10, [.int 0, .int 9, .int 0, .int 99, .ref c2, .ref ps2, .ref pr, .int 0, .int 0, .int ((-1)), .ref l2, .long 0])), (c2, .inr (3, [.int 0, .ref em, .int 0]))]) [0, 1] rfl
  have hDc := hD.sub (ws' := [(mm, .inr (10, [.int 0, .int 9, .int 0, .int 99, .ref c2, .ref ps2, .ref pr, .int 0, .int 0, .int ((-1)), .ref l2, .long 0])), (c2, .inr (3, [.int 0, .ref em, .int 0]))]) [0, 1] (by decide) rfl
  have hKc := hK.sub (tys' := []) [] rfl
  have hFc := va_free (wc := [(mm, .inr (10, [.int 0, .int 9, .int 0, .int 99, .ref c2, .ref ps2, .ref pr, .int 0, .int 0, .int ((-1)), .ref l2, .long 0])), (c2, .inr (3, [.int 0, .ref em, .int 0]))]) hD hS hA [0, 1] rfl
  refine va_calli (va_runV (As := [.int p0]) (rest := []) ⟨hx, hb, hml, hown, hts⟩ (c_X6_isCar l hst em kw kb D mm p0 c2 ps2 pr l2 _) (cwV 1 hts gX6_load_X6_isCar rfl rfl rfl (by decide +kernel) ⟨(Nat.le_of_ble_eq_true rfl), (Nat.le_of_ble_eq_true rfl)⟩) (tw_preV hF hS hFc hPc hKc hDc (va_recv hKc hPc (ci := 10) (q0 := 0) rfl rfl)) rfl rfl hl.1 rfl (lv_room (Nat.le_of_ble_eq_true rfl)) dX6_load_2 ⟨(Nat.le_of_ble_eq_true rfl), (Nat.le_of_ble_eq_true rfl)⟩) hS (fun q _ h => hFc q h) hFc (fun r u t H locs ht hvm hw hB hz1 hk1 hS => ?_)
  obtain ⟨rfl, rfl⟩ := hw
  obtain ⟨hP, hD, hK⟩ := tw_join (wr := []) hP hD hK [0, 1] [] rfl rfl (by decide) (by decide) hk1 hFc ht hvm hB
  have hP : va_P D vwCl [(mm, .inr (10, [.int 0, .int 9, .int 0, .int 99, .ref c2, .ref ps2, .ref pr, .int 0, .int 0, .int ((-1)), .ref l2, .long 0])), (c2, .inr (3, [.int 0, .ref em, .int 0]))] _ := hP
  have hD : va_D A [(mm, .inr (10, [.int 0, .int 9, .int 0, .int 99, .ref c2, .ref ps2, .ref pr, .int 0, .int 0, .int ((-1)), .ref l2, .long 0])), (c2, .inr (3, [.int 0, .ref em, .int 0]))] := hD
  have hK : va_K D vwCl [] s := hK
  refine W.widen (k := 0) (n := 0) (Nat.le_refl _) (Nat.le_refl _) ?_
  refine W.eq (g2 := F0 m 5 ls [.int 0]) rfl ?_
  refine lv_if_eq (tgt := 29) hx hb dX6_load_5 (by decide) (fun c9 => ?_) (fun c9 => absurd c9 (by decide))
  refine lv_aload_n hx hb dX6_load_29 rfl (lv_at hl 0 rfl) ?_
  refine lv_iconst (v := 1) hx hb dX6_load_30 (by decide) ?_
  have hPc := hP.sub (ws' := [(mm, .inr (10, [.int 0, .int 9, .int 0, .int 99, .ref c2, .ref ps2, .ref pr, .int 0, .int 0, .int ((-1)), .ref l2, .long 0]))]) [0] rfl
  have hDc := hD.sub (ws' := [(mm, .inr (10, [.int 0, .int 9, .int 0, .int 99, .ref c2, .ref ps2, .ref pr, .int 0, .int 0, .int ((-1)), .ref l2, .long 0]))]) [0] (by decide) rfl
  have hKc := hK.sub (tys' := []) [] rfl
  have hFc := va_free (wc := [(mm, .inr (10, [.int 0, .int 9, .int 0, .int 99, .ref c2, .ref ps2, .ref pr, .int 0, .int 0, .int ((-1)), .ref l2, .long 0]))]) hD hS hA [0] rfl
  refine va_calli (va_runV (As := [.int 1]) (rest := []) ⟨hx, hb, hml, hown, hts⟩ (c_X6_fails l hst em kw kb D mm 1 0 9 0 99 c2 ps2 pr 0 0 ((-1)) l2 0 _) (cwV 1 hts gX6_load_X6_fails rfl rfl rfl (by decide +kernel) ⟨(Nat.le_of_ble_eq_true rfl), (Nat.le_of_ble_eq_true rfl)⟩) (tw_preV hF hS hFc hPc hKc hDc (va_recv hKc hPc (ci := 10) (q0 := 0) rfl rfl)) rfl rfl hl.1 rfl (lv_room (Nat.le_of_ble_eq_true rfl)) dX6_load_31 ⟨(Nat.le_of_ble_eq_true rfl), (Nat.le_of_ble_eq_true rfl)⟩) hS (fun q _ h => hFc q h) hFc (fun r u t H locs ht hvm hw hB hz1 hk1 hS => ?_)
  obtain ⟨rfl, rfl⟩ := hw
  obtain ⟨hP, hD, hK⟩ := tw_join (wr := [(c2, .inr (3, [.int 0, .ref em, .int 0]))]) hP hD hK [0] [1] rfl rfl (by decide) (by decide) hk1 hFc ht hvm hB
  have hP : va_P D vwCl [(c2, .inr (3, [.int 0, .ref em, .int 0])), (mm, .inr (10, [.int 1, .int 9, .int 0, .int 99, .ref c2, .ref ps2, .ref pr, .int 0, .int 0, .int ((-1)), .ref l2, .long 0]))] _ := hP
  have hD : va_D A [(c2, .inr (3, [.int 0, .ref em, .int 0])), (mm, .inr (10, [.int 1, .int 9, .int 0, .int 99, .ref c2, .ref ps2, .ref pr, .int 0, .int 0, .int ((-1)), .ref l2, .long 0]))] := hD
  have hK : va_K D vwCl [] s := hK
  refine W.widen (k := 0) (n := 0) (Nat.le_refl _) (Nat.le_refl _) ?_
  refine W.eq (g2 := F0 m 34 ls [.int 0]) rfl ?_
  refine W.widen (k := 0) (n := 0) (Nat.le_of_ble_eq_true rfl) (Nat.le_of_ble_eq_true rfl) ?_
  have hP9 := hP.sub (ws' := [(mm, .inr (10, [.int 1, .int 9, .int 0, .int 99, .ref c2, .ref ps2, .ref pr, .int 0, .int 0, .int ((-1)), .ref l2, .long 0]))]) [1] rfl
  have hD9 := hD.sub (ws' := [(mm, .inr (10, [.int 1, .int 9, .int 0, .int 99, .ref c2, .ref ps2, .ref pr, .int 0, .int 0, .int ((-1)), .ref l2, .long 0]))]) [1] (by decide) rfl
  have hK9 := hK.sub (tys' := []) [] rfl
  exact W.iret (v := 0) hx hb hr (fun t ht hW => ⟨⟨0, ([(mm, .inr (10, [.int 1, .int 9, .int 0, .int 99, .ref c2, .ref ps2, .ref pr, .int 0, .int 0, .int ((-1)), .ref l2, .long 0]))], []), rfl, ⟨rfl, rfl⟩, by rw [ht]; exact hP9, va_K.moved hW.alike hK9, hD9⟩, hS.F ht⟩) hS.2.2 dX6_load_34
set_option maxHeartbeats 4000000 in
set_option maxRecDepth 100000 in
theorem c_X6_stops (l : Launch) (hst : l.stackTraces = false) (em kw kb : Nat) (D : va_G) (mm : Nat) (p0 : Int32) (c2 : Nat) (ps2 : Nat) (pr : Nat) (l2 : Nat) (sz : Nat) : Met l yX6_stops wsX6_stops ({ frames := 2, cells := 0, slots := 0, locals := 43 }) (va_Pc [.ref mm, .int p0] (tw_Pre em kw kb D sz [(mm, .inr (10, [.int 0, .int 9, .int 0, .int 99, .ref c2, .ref ps2, .ref pr, .int 0, .int 0, .int ((-1)), .ref l2, .long 0])), (c2, .inr (3, [.int 0, .ref em, .int 0]))] [])) (va_Qi (fun (r : Int32) (u : tw_U) => r = 0 ∧ u = ([(mm, .inr (10, [.int 1, .int 9, .int 0, .int 99, .ref c2, .ref ps2, .ref pr, .int 0, .int 0, .int ((-1)), .ref l2, .long 0]))], [])) (tw_B D (va_A [(mm, .inr (10, [.int 0, .int 9, .int 0, .int 99, .ref c2, .ref ps2, .ref pr, .int 0, .int 0, .int ((-1)), .ref l2, .long 0])), (c2, .inr (3, [.int 0, .ref em, .int 0]))] sz)) (va_A [(mm, .inr (10, [.int 0, .int 9, .int 0, .int 99, .ref c2, .ref ps2, .ref pr, .int 0, .int 0, .int ((-1)), .ref l2, .long 0])), (c2, .inr (3, [.int 0, .ref em, .int 0]))] sz)) 0 0 (va_A [(mm, .inr (10, [.int 0, .int 9, .int 0, .int 99, .ref c2, .ref ps2, .ref pr, .int 0, .int 0, .int ((-1)), .ref l2, .long 0])), (c2, .inr (3, [.int 0, .ref em, .int 0]))] sz) := by
  refine Met.ofW (cc := cX6_stops) (maxL := 2) (ret := (some .int)) (by decide) rfl ?_
  intro p e s m args below meth c s₁ B hml hv
  obtain ⟨rfl, hsz, hP, hK, hD0, hF⟩ := hv
  have hx := B.exec
  have hb := B.bytes
  have hr := B.returns
  have hts := atoms_spec (ws := wsX6_stops) B.pre
  have hown : s.vm.findClass RX6 = some m.cls := findClass_of_methodNamed B.named
  have hlocks := B.notSynchronized
  subst hsz
  have hD := hD0.self (sz := s.heap.size)
  generalize hAe : va_A [(mm, .inr (10, [.int 0, .int 9, .int 0, .int 99, .ref c2, .ref ps2, .ref pr, .int 0, .int 0, .int ((-1)), .ref l2, .long 0])), (c2, .inr (3, [.int 0, .ref em, .int 0]))] s.heap.size = A at hD hF ⊢
  have hA : ∀ q : Nat, s.heap.size ≤ q → A q := fun q h => by rw [← hAe]; exact Or.inr h
  have hS : va_S A s.heap s.heap [] := va_S.rf
  have hP : va_P D vwCl [(mm, .inr (10, [.int 0, .int 9, .int 0, .int 99, .ref c2, .ref ps2, .ref pr, .int 0, .int 0, .int ((-1)), .ref l2, .long 0])), (c2, .inr (3, [.int 0, .ref em, .int 0]))] s.heap := hP
  have hl := lv_entry ([.ref mm, .int p0]) (n := 2) (Nat.le_of_ble_eq_true rfl)
  rw [lg_entry_eq]
  generalize (lg_sl ([.ref mm, .int p0]) ++ List.replicate (2 - (lg_sl ([.ref mm, .int p0])).length) Slot.unset).toArray = ls at hl ⊢
  have hl : lv_has ls 2 [(0, .ref mm), (1, .int p0)] := hl
  refine lv_aload_n hx hb dX6_stops_0 rfl (lv_at hl 0 rfl) ?_
  refine lv_iload_n hx hb dX6_stops_1 rfl (lv_at hl 1 rfl) ?_
  have hPc := hP.sub (ws' := [(mm, .inr (10, [.int 0, .int 9, .int 0, .int 99, .ref c2, .ref ps2, .ref pr, .int 0, .int 0, .int ((-1)), .ref l2, .long 0])), (c2, .inr (3, [.int 0, .ref em, .int 0]))]) [0, 1] rfl
  have hDc := hD.sub (ws' := [(mm, .inr (10, [.int 0, .int 9, .int 0, .int 99, .ref c2, .ref ps2, .ref pr, .int 0, .int 0, .int ((-1)), .ref l2, .long 0])), (c2, .inr (3, [.int 0, .ref em, .int 0]))]) [0, 1] (by decide) rfl
  have hKc := hK.sub (tys' := []) [] rfl
  have hFc := va_free (wc := [(mm, .inr (10, [.int 0, .int 9, .int 0, .int 99, .ref c2, .ref ps2, .ref pr, .int 0, .int 0, .int ((-1)), .ref l2, .long 0])), (c2, .inr (3, [.int 0, .ref em, .int 0]))]) hD hS hA [0, 1] rfl
  refine va_calli (va_runV (As := [.int p0]) (rest := []) ⟨hx, hb, hml, hown, hts⟩ (c_X6_isCar l hst em kw kb D mm p0 c2 ps2 pr l2 _) (cwV 1 hts gX6_stops_X6_isCar rfl rfl rfl (by decide +kernel) ⟨(Nat.le_of_ble_eq_true rfl), (Nat.le_of_ble_eq_true rfl)⟩) (tw_preV hF hS hFc hPc hKc hDc (va_recv hKc hPc (ci := 10) (q0 := 0) rfl rfl)) rfl rfl hl.1 rfl (lv_room (Nat.le_of_ble_eq_true rfl)) dX6_stops_2 ⟨(Nat.le_of_ble_eq_true rfl), (Nat.le_of_ble_eq_true rfl)⟩) hS (fun q _ h => hFc q h) hFc (fun r u t H locs ht hvm hw hB hz1 hk1 hS => ?_)
  obtain ⟨rfl, rfl⟩ := hw
  obtain ⟨hP, hD, hK⟩ := tw_join (wr := []) hP hD hK [0, 1] [] rfl rfl (by decide) (by decide) hk1 hFc ht hvm hB
  have hP : va_P D vwCl [(mm, .inr (10, [.int 0, .int 9, .int 0, .int 99, .ref c2, .ref ps2, .ref pr, .int 0, .int 0, .int ((-1)), .ref l2, .long 0])), (c2, .inr (3, [.int 0, .ref em, .int 0]))] _ := hP
  have hD : va_D A [(mm, .inr (10, [.int 0, .int 9, .int 0, .int 99, .ref c2, .ref ps2, .ref pr, .int 0, .int 0, .int ((-1)), .ref l2, .long 0])), (c2, .inr (3, [.int 0, .ref em, .int 0]))] := hD
  have hK : va_K D vwCl [] s := hK
  refine W.widen (k := 0) (n := 0) (Nat.le_refl _) (Nat.le_refl _) ?_
  refine W.eq (g2 := F0 m 5 ls [.int 0]) rfl ?_
  refine lv_if_eq (tgt := 29) hx hb dX6_stops_5 (by decide) (fun c9 => ?_) (fun c9 => absurd c9 (by decide))
  refine lv_aload_n hx hb dX6_stops_29 rfl (lv_at hl 0 rfl) ?_
  refine lv_iconst (v := 1) hx hb dX6_stops_30 (by decide) ?_
  have hPc := hP.sub (ws' := [(mm, .inr (10, [.int 0, .int 9, .int 0, .int 99, .ref c2, .ref ps2, .ref pr, .int 0, .int 0, .int ((-1)), .ref l2, .long 0]))]) [0] rfl
  have hDc := hD.sub (ws' := [(mm, .inr (10, [.int 0, .int 9, .int 0, .int 99, .ref c2, .ref ps2, .ref pr, .int 0, .int 0, .int ((-1)), .ref l2, .long 0]))]) [0] (by decide) rfl
  have hKc := hK.sub (tys' := []) [] rfl
  have hFc := va_free (wc := [(mm, .inr (10, [.int 0, .int 9, .int 0, .int 99, .ref c2, .ref ps2, .ref pr, .int 0, .int 0, .int ((-1)), .ref l2, .long 0]))]) hD hS hA [0] rfl
  refine va_calli (va_runV (As := [.int 1]) (rest := []) ⟨hx, hb, hml, hown, hts⟩ (c_X6_fails l hst em kw kb D mm 1 0 9 0 99 c2 ps2 pr 0 0 ((-1)) l2 0 _) (cwV 1 hts gX6_stops_X6_fails rfl rfl rfl (by decide +kernel) ⟨(Nat.le_of_ble_eq_true rfl), (Nat.le_of_ble_eq_true rfl)⟩) (tw_preV hF hS hFc hPc hKc hDc (va_recv hKc hPc (ci := 10) (q0 := 0) rfl rfl)) rfl rfl hl.1 rfl (lv_room (Nat.le_of_ble_eq_true rfl)) dX6_stops_31 ⟨(Nat.le_of_ble_eq_true rfl), (Nat.le_of_ble_eq_true rfl)⟩) hS (fun q _ h => hFc q h) hFc (fun r u t H locs ht hvm hw hB hz1 hk1 hS => ?_)
  obtain ⟨rfl, rfl⟩ := hw
  obtain ⟨hP, hD, hK⟩ := tw_join (wr := [(c2, .inr (3, [.int 0, .ref em, .int 0]))]) hP hD hK [0] [1] rfl rfl (by decide) (by decide) hk1 hFc ht hvm hB
  have hP : va_P D vwCl [(c2, .inr (3, [.int 0, .ref em, .int 0])), (mm, .inr (10, [.int 1, .int 9, .int 0, .int 99, .ref c2, .ref ps2, .ref pr, .int 0, .int 0, .int ((-1)), .ref l2, .long 0]))] _ := hP
  have hD : va_D A [(c2, .inr (3, [.int 0, .ref em, .int 0])), (mm, .inr (10, [.int 1, .int 9, .int 0, .int 99, .ref c2, .ref ps2, .ref pr, .int 0, .int 0, .int ((-1)), .ref l2, .long 0]))] := hD
  have hK : va_K D vwCl [] s := hK
  refine W.widen (k := 0) (n := 0) (Nat.le_refl _) (Nat.le_refl _) ?_
  refine W.eq (g2 := F0 m 34 ls [.int 0]) rfl ?_
  refine W.widen (k := 0) (n := 0) (Nat.le_of_ble_eq_true rfl) (Nat.le_of_ble_eq_true rfl) ?_
  have hP9 := hP.sub (ws' := [(mm, .inr (10, [.int 1, .int 9, .int 0, .int 99, .ref c2, .ref ps2, .ref pr, .int 0, .int 0, .int ((-1)), .ref l2, .long 0]))]) [1] rfl
  have hD9 := hD.sub (ws' := [(mm, .inr (10, [.int 1, .int 9, .int 0, .int 99, .ref c2, .ref ps2, .ref pr, .int 0, .int 0, .int ((-1)), .ref l2, .long 0]))]) [1] (by decide) rfl
  have hK9 := hK.sub (tys' := []) [] rfl
  exact W.iret (v := 0) hx hb hr (fun t ht hW => ⟨⟨0, ([(mm, .inr (10, [.int 1, .int 9, .int 0, .int 99, .ref c2, .ref ps2, .ref pr, .int 0, .int 0, .int ((-1)), .ref l2, .long 0]))], []), rfl, ⟨rfl, rfl⟩, by rw [ht]; exact hP9, va_K.moved hW.alike hK9, hD9⟩, hS.F ht⟩) hS.2.2 dX6_stops_34
set_option maxHeartbeats 4000000 in
set_option maxRecDepth 100000 in
theorem c_X6_timeFor (l : Launch) (hst : l.stackTraces = false) (em kw kb : Nat) (D : va_G) (mm : Nat) (p0 : Int32) (p1 : Int32) (p2 : Int32) (c2 : Nat) (ps2 : Nat) (pr : Nat) (l2 : Nat) (sz : Nat) : Met l yX6_timeFor wsX6_timeFor ({ frames := 2, cells := 0, slots := 0, locals := 43 }) (va_Pc [.ref mm, .int p0, .int p1, .int p2] (tw_Pre em kw kb D sz [(mm, .inr (10, [.int 0, .int 9, .int 0, .int 99, .ref c2, .ref ps2, .ref pr, .int 0, .int 0, .int ((-1)), .ref l2, .long 0])), (c2, .inr (3, [.int 0, .ref em, .int 0]))] [])) (va_Qi (fun (r : Int32) (u : tw_U) => r = 0 ∧ u = ([(mm, .inr (10, [.int 1, .int 9, .int 0, .int 99, .ref c2, .ref ps2, .ref pr, .int 0, .int 0, .int ((-1)), .ref l2, .long 0]))], [])) (tw_B D (va_A [(mm, .inr (10, [.int 0, .int 9, .int 0, .int 99, .ref c2, .ref ps2, .ref pr, .int 0, .int 0, .int ((-1)), .ref l2, .long 0])), (c2, .inr (3, [.int 0, .ref em, .int 0]))] sz)) (va_A [(mm, .inr (10, [.int 0, .int 9, .int 0, .int 99, .ref c2, .ref ps2, .ref pr, .int 0, .int 0, .int ((-1)), .ref l2, .long 0])), (c2, .inr (3, [.int 0, .ref em, .int 0]))] sz)) 0 0 (va_A [(mm, .inr (10, [.int 0, .int 9, .int 0, .int 99, .ref c2, .ref ps2, .ref pr, .int 0, .int 0, .int ((-1)), .ref l2, .long 0])), (c2, .inr (3, [.int 0, .ref em, .int 0]))] sz) := by
  refine Met.ofW (cc := cX6_timeFor) (maxL := 4) (ret := (some .int)) (by decide) rfl ?_
  intro p e s m args below meth c s₁ B hml hv
  obtain ⟨rfl, hsz, hP, hK, hD0, hF⟩ := hv
  have hx := B.exec
  have hb := B.bytes
  have hr := B.returns
  have hts := atoms_spec (ws := wsX6_timeFor) B.pre
  have hown : s.vm.findClass RX6 = some m.cls := findClass_of_methodNamed B.named
  have hlocks := B.notSynchronized
  subst hsz
  have hD := hD0.self (sz := s.heap.size)
  generalize hAe : va_A [(mm, .inr (10, [.int 0, .int 9, .int 0, .int 99, .ref c2, .ref ps2, .ref pr, .int 0, .int 0, .int ((-1)), .ref l2, .long 0])), (c2, .inr (3, [.int 0, .ref em, .int 0]))] s.heap.size = A at hD hF ⊢
  have hA : ∀ q : Nat, s.heap.size ≤ q → A q := fun q h => by rw [← hAe]; exact Or.inr h
  have hS : va_S A s.heap s.heap [] := va_S.rf
  have hP : va_P D vwCl [(mm, .inr (10, [.int 0, .int 9, .int 0, .int 99, .ref c2, .ref ps2, .ref pr, .int 0, .int 0, .int ((-1)), .ref l2, .long 0])), (c2, .inr (3, [.int 0, .ref em, .int 0]))] s.heap := hP
  have hl := lv_entry ([.ref mm, .int p0, .int p1, .int p2]) (n := 4) (Nat.le_of_ble_eq_true rfl)
  rw [lg_entry_eq]
  generalize (lg_sl ([.ref mm, .int p0, .int p1, .int p2]) ++ List.replicate (4 - (lg_sl ([.ref mm, .int p0, .int p1, .int p2])).length) Slot.unset).toArray = ls at hl ⊢
  have hl : lv_has ls 4 [(0, .ref mm), (1, .int p0), (2, .int p1), (3, .int p2)] := hl
  refine lv_aload_n hx hb dX6_timeFor_0 rfl (lv_at hl 0 rfl) ?_
  refine lv_iload_n hx hb dX6_timeFor_1 rfl (lv_at hl 1 rfl) ?_
  have hPc := hP.sub (ws' := [(mm, .inr (10, [.int 0, .int 9, .int 0, .int 99, .ref c2, .ref ps2, .ref pr, .int 0, .int 0, .int ((-1)), .ref l2, .long 0])), (c2, .inr (3, [.int 0, .ref em, .int 0]))]) [0, 1] rfl
  have hDc := hD.sub (ws' := [(mm, .inr (10, [.int 0, .int 9, .int 0, .int 99, .ref c2, .ref ps2, .ref pr, .int 0, .int 0, .int ((-1)), .ref l2, .long 0])), (c2, .inr (3, [.int 0, .ref em, .int 0]))]) [0, 1] (by decide) rfl
  have hKc := hK.sub (tys' := []) [] rfl
  have hFc := va_free (wc := [(mm, .inr (10, [.int 0, .int 9, .int 0, .int 99, .ref c2, .ref ps2, .ref pr, .int 0, .int 0, .int ((-1)), .ref l2, .long 0])), (c2, .inr (3, [.int 0, .ref em, .int 0]))]) hD hS hA [0, 1] rfl
  refine va_calli (va_runV (As := [.int p0]) (rest := []) ⟨hx, hb, hml, hown, hts⟩ (c_X6_isCar l hst em kw kb D mm p0 c2 ps2 pr l2 _) (cwV 1 hts gX6_timeFor_X6_isCar rfl rfl rfl (by decide +kernel) ⟨(Nat.le_of_ble_eq_true rfl), (Nat.le_of_ble_eq_true rfl)⟩) (tw_preV hF hS hFc hPc hKc hDc (va_recv hKc hPc (ci := 10) (q0 := 0) rfl rfl)) rfl rfl hl.1 rfl (lv_room (Nat.le_of_ble_eq_true rfl)) dX6_timeFor_2 ⟨(Nat.le_of_ble_eq_true rfl), (Nat.le_of_ble_eq_true rfl)⟩) hS (fun q _ h => hFc q h) hFc (fun r u t H locs ht hvm hw hB hz1 hk1 hS => ?_)
  obtain ⟨rfl, rfl⟩ := hw
  obtain ⟨hP, hD, hK⟩ := tw_join (wr := []) hP hD hK [0, 1] [] rfl rfl (by decide) (by decide) hk1 hFc ht hvm hB
  have hP : va_P D vwCl [(mm, .inr (10, [.int 0, .int 9, .int 0, .int 99, .ref c2, .ref ps2, .ref pr, .int 0, .int 0, .int ((-1)), .ref l2, .long 0])), (c2, .inr (3, [.int 0, .ref em, .int 0]))] _ := hP
  have hD : va_D A [(mm, .inr (10, [.int 0, .int 9, .int 0, .int 99, .ref c2, .ref ps2, .ref pr, .int 0, .int 0, .int ((-1)), .ref l2, .long 0])), (c2, .inr (3, [.int 0, .ref em, .int 0]))] := hD
  have hK : va_K D vwCl [] s := hK
  refine W.widen (k := 0) (n := 0) (Nat.le_refl _) (Nat.le_refl _) ?_
  refine W.eq (g2 := F0 m 5 ls [.int 0]) rfl ?_
  refine lv_if_ne (tgt := 16) hx hb dX6_timeFor_5 (by decide) (fun c9 => absurd c9 (by decide)) (fun c9 => ?_)
  refine lv_aload_n hx hb dX6_timeFor_8 rfl (lv_at hl 0 rfl) ?_
  refine lv_iconst (v := 1) hx hb dX6_timeFor_9 (by decide) ?_
  have hPc := hP.sub (ws' := [(mm, .inr (10, [.int 0, .int 9, .int 0, .int 99, .ref c2, .ref ps2, .ref pr, .int 0, .int 0, .int ((-1)), .ref l2, .long 0]))]) [0] rfl
  have hDc := hD.sub (ws' := [(mm, .inr (10, [.int 0, .int 9, .int 0, .int 99, .ref c2, .ref ps2, .ref pr, .int 0, .int 0, .int ((-1)), .ref l2, .long 0]))]) [0] (by decide) rfl
  have hKc := hK.sub (tys' := []) [] rfl
  have hFc := va_free (wc := [(mm, .inr (10, [.int 0, .int 9, .int 0, .int 99, .ref c2, .ref ps2, .ref pr, .int 0, .int 0, .int ((-1)), .ref l2, .long 0]))]) hD hS hA [0] rfl
  refine va_calli (va_runV (As := [.int 1]) (rest := []) ⟨hx, hb, hml, hown, hts⟩ (c_X6_fails l hst em kw kb D mm 1 0 9 0 99 c2 ps2 pr 0 0 ((-1)) l2 0 _) (cwV 1 hts gX6_timeFor_X6_fails rfl rfl rfl (by decide +kernel) ⟨(Nat.le_of_ble_eq_true rfl), (Nat.le_of_ble_eq_true rfl)⟩) (tw_preV hF hS hFc hPc hKc hDc (va_recv hKc hPc (ci := 10) (q0 := 0) rfl rfl)) rfl rfl hl.1 rfl (lv_room (Nat.le_of_ble_eq_true rfl)) dX6_timeFor_10 ⟨(Nat.le_of_ble_eq_true rfl), (Nat.le_of_ble_eq_true rfl)⟩) hS (fun q _ h => hFc q h) hFc (fun r u t H locs ht hvm hw hB hz1 hk1 hS => ?_)
  obtain ⟨rfl, rfl⟩ := hw
  obtain ⟨hP, hD, hK⟩ := tw_join (wr := [(c2, .inr (3, [.int 0, .ref em, .int 0]))]) hP hD hK [0] [1] rfl rfl (by decide) (by decide) hk1 hFc ht hvm hB
  have hP : va_P D vwCl [(c2, .inr (3, [.int 0, .ref em, .int 0])), (mm, .inr (10, [.int 1, .int 9, .int 0, .int 99, .ref c2, .ref ps2, .ref pr, .int 0, .int 0, .int ((-1)), .ref l2, .long 0]))] _ := hP
  have hD : va_D A [(c2, .inr (3, [.int 0, .ref em, .int 0])), (mm, .inr (10, [.int 1, .int 9, .int 0, .int 99, .ref c2, .ref ps2, .ref pr, .int 0, .int 0, .int ((-1)), .ref l2, .long 0]))] := hD
  have hK : va_K D vwCl [] s := hK
  refine W.widen (k := 0) (n := 0) (Nat.le_refl _) (Nat.le_refl _) ?_
  refine W.eq (g2 := F0 m 13 ls [.int 0]) rfl ?_
  refine lv_goto (tgt := 60) hx hb dX6_timeFor_13 (by decide) ?_
  refine W.widen (k := 0) (n := 0) (Nat.le_of_ble_eq_true rfl) (Nat.le_of_ble_eq_true rfl) ?_
  have hP9 := hP.sub (ws' := [(mm, .inr (10, [.int 1, .int 9, .int 0, .int 99, .ref c2, .ref ps2, .ref pr, .int 0, .int 0, .int ((-1)), .ref l2, .long 0]))]) [1] rfl
  have hD9 := hD.sub (ws' := [(mm, .inr (10, [.int 1, .int 9, .int 0, .int 99, .ref c2, .ref ps2, .ref pr, .int 0, .int 0, .int ((-1)), .ref l2, .long 0]))]) [1] (by decide) rfl
  have hK9 := hK.sub (tys' := []) [] rfl
  exact W.iret (v := 0) hx hb hr (fun t ht hW => ⟨⟨0, ([(mm, .inr (10, [.int 1, .int 9, .int 0, .int 99, .ref c2, .ref ps2, .ref pr, .int 0, .int 0, .int ((-1)), .ref l2, .long 0]))], []), rfl, ⟨rfl, rfl⟩, by rw [ht]; exact hP9, va_K.moved hW.alike hK9, hD9⟩, hS.F ht⟩) hS.2.2 dX6_timeFor_60
set_option maxHeartbeats 4000000 in
set_option maxRecDepth 100000 in
theorem c_X6_priceFor (l : Launch) (hst : l.stackTraces = false) (em kw kb : Nat) (D : va_G) (mm : Nat) (p0 : Int32) (p1 : Int32) (p2 : Int32) (c2 : Nat) (ps2 : Nat) (pr : Nat) (l2 : Nat) (sz : Nat) : Met l yX6_priceFor wsX6_priceFor ({ frames := 2, cells := 0, slots := 0, locals := 43 }) (va_Pc [.ref mm, .int p0, .int p1, .int p2] (tw_Pre em kw kb D sz [(mm, .inr (10, [.int 0, .int 9, .int 0, .int 99, .ref c2, .ref ps2, .ref pr, .int 0, .int 0, .int ((-1)), .ref l2, .long 0])), (c2, .inr (3, [.int 0, .ref em, .int 0]))] [])) (va_Qi (fun (r : Int32) (u : tw_U) => r = 0 ∧ u = ([(mm, .inr (10, [.int 1, .int 9, .int 0, .int 99, .ref c2, .ref ps2, .ref pr, .int 0, .int 0, .int ((-1)), .ref l2, .long 0]))], [])) (tw_B D (va_A [(mm, .inr (10, [.int 0, .int 9, .int 0, .int 99, .ref c2, .ref ps2, .ref pr, .int 0, .int 0, .int ((-1)), .ref l2, .long 0])), (c2, .inr (3, [.int 0, .ref em, .int 0]))] sz)) (va_A [(mm, .inr (10, [.int 0, .int 9, .int 0, .int 99, .ref c2, .ref ps2, .ref pr, .int 0, .int 0, .int ((-1)), .ref l2, .long 0])), (c2, .inr (3, [.int 0, .ref em, .int 0]))] sz)) 0 0 (va_A [(mm, .inr (10, [.int 0, .int 9, .int 0, .int 99, .ref c2, .ref ps2, .ref pr, .int 0, .int 0, .int ((-1)), .ref l2, .long 0])), (c2, .inr (3, [.int 0, .ref em, .int 0]))] sz) := by
  refine Met.ofW (cc := cX6_priceFor) (maxL := 4) (ret := (some .int)) (by decide) rfl ?_
  intro p e s m args below meth c s₁ B hml hv
  obtain ⟨rfl, hsz, hP, hK, hD0, hF⟩ := hv
  have hx := B.exec
  have hb := B.bytes
  have hr := B.returns
  have hts := atoms_spec (ws := wsX6_priceFor) B.pre
  have hown : s.vm.findClass RX6 = some m.cls := findClass_of_methodNamed B.named
  have hlocks := B.notSynchronized
  subst hsz
  have hD := hD0.self (sz := s.heap.size)
  generalize hAe : va_A [(mm, .inr (10, [.int 0, .int 9, .int 0, .int 99, .ref c2, .ref ps2, .ref pr, .int 0, .int 0, .int ((-1)), .ref l2, .long 0])), (c2, .inr (3, [.int 0, .ref em, .int 0]))] s.heap.size = A at hD hF ⊢
  have hA : ∀ q : Nat, s.heap.size ≤ q → A q := fun q h => by rw [← hAe]; exact Or.inr h
  have hS : va_S A s.heap s.heap [] := va_S.rf
  have hP : va_P D vwCl [(mm, .inr (10, [.int 0, .int 9, .int 0, .int 99, .ref c2, .ref ps2, .ref pr, .int 0, .int 0, .int ((-1)), .ref l2, .long 0])), (c2, .inr (3, [.int 0, .ref em, .int 0]))] s.heap := hP
  have hl := lv_entry ([.ref mm, .int p0, .int p1, .int p2]) (n := 4) (Nat.le_of_ble_eq_true rfl)
  rw [lg_entry_eq]
  generalize (lg_sl ([.ref mm, .int p0, .int p1, .int p2]) ++ List.replicate (4 - (lg_sl ([.ref mm, .int p0, .int p1, .int p2])).length) Slot.unset).toArray = ls at hl ⊢
  have hl : lv_has ls 4 [(0, .ref mm), (1, .int p0), (2, .int p1), (3, .int p2)] := hl
  refine lv_aload_n hx hb dX6_priceFor_0 rfl (lv_at hl 0 rfl) ?_
  refine lv_iload_n hx hb dX6_priceFor_1 rfl (lv_at hl 1 rfl) ?_
  have hPc := hP.sub (ws' := [(mm, .inr (10, [.int 0, .int 9, .int 0, .int 99, .ref c2, .ref ps2, .ref pr, .int 0, .int 0, .int ((-1)), .ref l2, .long 0])), (c2, .inr (3, [.int 0, .ref em, .int 0]))]) [0, 1] rfl
  have hDc := hD.sub (ws' := [(mm, .inr (10, [.int 0, .int 9, .int 0, .int 99, .ref c2, .ref ps2, .ref pr, .int 0, .int 0, .int ((-1)), .ref l2, .long 0])), (c2, .inr (3, [.int 0, .ref em, .int 0]))]) [0, 1] (by decide) rfl
  have hKc := hK.sub (tys' := []) [] rfl
  have hFc := va_free (wc := [(mm, .inr (10, [.int 0, .int 9, .int 0, .int 99, .ref c2, .ref ps2, .ref pr, .int 0, .int 0, .int ((-1)), .ref l2, .long 0])), (c2, .inr (3, [.int 0, .ref em, .int 0]))]) hD hS hA [0, 1] rfl
  refine va_calli (va_runV (As := [.int p0]) (rest := []) ⟨hx, hb, hml, hown, hts⟩ (c_X6_isCar l hst em kw kb D mm p0 c2 ps2 pr l2 _) (cwV 1 hts gX6_priceFor_X6_isCar rfl rfl rfl (by decide +kernel) ⟨(Nat.le_of_ble_eq_true rfl), (Nat.le_of_ble_eq_true rfl)⟩) (tw_preV hF hS hFc hPc hKc hDc (va_recv hKc hPc (ci := 10) (q0 := 0) rfl rfl)) rfl rfl hl.1 rfl (lv_room (Nat.le_of_ble_eq_true rfl)) dX6_priceFor_2 ⟨(Nat.le_of_ble_eq_true rfl), (Nat.le_of_ble_eq_true rfl)⟩) hS (fun q _ h => hFc q h) hFc (fun r u t H locs ht hvm hw hB hz1 hk1 hS => ?_)
  obtain ⟨rfl, rfl⟩ := hw
  obtain ⟨hP, hD, hK⟩ := tw_join (wr := []) hP hD hK [0, 1] [] rfl rfl (by decide) (by decide) hk1 hFc ht hvm hB
  have hP : va_P D vwCl [(mm, .inr (10, [.int 0, .int 9, .int 0, .int 99, .ref c2, .ref ps2, .ref pr, .int 0, .int 0, .int ((-1)), .ref l2, .long 0])), (c2, .inr (3, [.int 0, .ref em, .int 0]))] _ := hP
  have hD : va_D A [(mm, .inr (10, [.int 0, .int 9, .int 0, .int 99, .ref c2, .ref ps2, .ref pr, .int 0, .int 0, .int ((-1)), .ref l2, .long 0])), (c2, .inr (3, [.int 0, .ref em, .int 0]))] := hD
  have hK : va_K D vwCl [] s := hK
  refine W.widen (k := 0) (n := 0) (Nat.le_refl _) (Nat.le_refl _) ?_
  refine W.eq (g2 := F0 m 5 ls [.int 0]) rfl ?_
  refine lv_if_ne (tgt := 16) hx hb dX6_priceFor_5 (by decide) (fun c9 => absurd c9 (by decide)) (fun c9 => ?_)
  refine lv_aload_n hx hb dX6_priceFor_8 rfl (lv_at hl 0 rfl) ?_
  refine lv_iconst (v := 1) hx hb dX6_priceFor_9 (by decide) ?_
  have hPc := hP.sub (ws' := [(mm, .inr (10, [.int 0, .int 9, .int 0, .int 99, .ref c2, .ref ps2, .ref pr, .int 0, .int 0, .int ((-1)), .ref l2, .long 0]))]) [0] rfl
  have hDc := hD.sub (ws' := [(mm, .inr (10, [.int 0, .int 9, .int 0, .int 99, .ref c2, .ref ps2, .ref pr, .int 0, .int 0, .int ((-1)), .ref l2, .long 0]))]) [0] (by decide) rfl
  have hKc := hK.sub (tys' := []) [] rfl
  have hFc := va_free (wc := [(mm, .inr (10, [.int 0, .int 9, .int 0, .int 99, .ref c2, .ref ps2, .ref pr, .int 0, .int 0, .int ((-1)), .ref l2, .long 0]))]) hD hS hA [0] rfl
  refine va_calli (va_runV (As := [.int 1]) (rest := []) ⟨hx, hb, hml, hown, hts⟩ (c_X6_fails l hst em kw kb D mm 1 0 9 0 99 c2 ps2 pr 0 0 ((-1)) l2 0 _) (cwV 1 hts gX6_priceFor_X6_fails rfl rfl rfl (by decide +kernel) ⟨(Nat.le_of_ble_eq_true rfl), (Nat.le_of_ble_eq_true rfl)⟩) (tw_preV hF hS hFc hPc hKc hDc (va_recv hKc hPc (ci := 10) (q0 := 0) rfl rfl)) rfl rfl hl.1 rfl (lv_room (Nat.le_of_ble_eq_true rfl)) dX6_priceFor_10 ⟨(Nat.le_of_ble_eq_true rfl), (Nat.le_of_ble_eq_true rfl)⟩) hS (fun q _ h => hFc q h) hFc (fun r u t H locs ht hvm hw hB hz1 hk1 hS => ?_)
  obtain ⟨rfl, rfl⟩ := hw
  obtain ⟨hP, hD, hK⟩ := tw_join (wr := [(c2, .inr (3, [.int 0, .ref em, .int 0]))]) hP hD hK [0] [1] rfl rfl (by decide) (by decide) hk1 hFc ht hvm hB
  have hP : va_P D vwCl [(c2, .inr (3, [.int 0, .ref em, .int 0])), (mm, .inr (10, [.int 1, .int 9, .int 0, .int 99, .ref c2, .ref ps2, .ref pr, .int 0, .int 0, .int ((-1)), .ref l2, .long 0]))] _ := hP
  have hD : va_D A [(c2, .inr (3, [.int 0, .ref em, .int 0])), (mm, .inr (10, [.int 1, .int 9, .int 0, .int 99, .ref c2, .ref ps2, .ref pr, .int 0, .int 0, .int ((-1)), .ref l2, .long 0]))] := hD
  have hK : va_K D vwCl [] s := hK
  refine W.widen (k := 0) (n := 0) (Nat.le_refl _) (Nat.le_refl _) ?_
  refine W.eq (g2 := F0 m 13 ls [.int 0]) rfl ?_
  refine lv_goto (tgt := 60) hx hb dX6_priceFor_13 (by decide) ?_
  refine W.widen (k := 0) (n := 0) (Nat.le_of_ble_eq_true rfl) (Nat.le_of_ble_eq_true rfl) ?_
  have hP9 := hP.sub (ws' := [(mm, .inr (10, [.int 1, .int 9, .int 0, .int 99, .ref c2, .ref ps2, .ref pr, .int 0, .int 0, .int ((-1)), .ref l2, .long 0]))]) [1] rfl
  have hD9 := hD.sub (ws' := [(mm, .inr (10, [.int 1, .int 9, .int 0, .int 99, .ref c2, .ref ps2, .ref pr, .int 0, .int 0, .int ((-1)), .ref l2, .long 0]))]) [1] (by decide) rfl
  have hK9 := hK.sub (tys' := []) [] rfl
  exact W.iret (v := 0) hx hb hr (fun t ht hW => ⟨⟨0, ([(mm, .inr (10, [.int 1, .int 9, .int 0, .int 99, .ref c2, .ref ps2, .ref pr, .int 0, .int 0, .int ((-1)), .ref l2, .long 0]))], []), rfl, ⟨rfl, rfl⟩, by rw [ht]; exact hP9, va_K.moved hW.alike hK9, hD9⟩, hS.F ht⟩) hS.2.2 dX6_priceFor_60
set_option maxHeartbeats 4000000 in
set_option maxRecDepth 100000 in
theorem c_X6_fail (l : Launch) (hst : l.stackTraces = false) (em kw kb : Nat) (D : va_G) (mm : Nat) (p0 : Int32) (p1 : Int32) (c2 : Nat) (ps2 : Nat) (pr : Nat) (l2 : Nat) (sz : Nat) : Met l yX6_fail wsX6_fail ({ frames := 2, cells := 0, slots := 0, locals := 43 }) (va_Pc [.ref mm, .int p0, .int p1] (tw_Pre em kw kb D sz [(mm, .inr (10, [.int 0, .int 9, .int 0, .int 99, .ref c2, .ref ps2, .ref pr, .int 0, .int 0, .int ((-1)), .ref l2, .long 0])), (c2, .inr (3, [.int 0, .ref em, .int 0]))] [])) (va_Qi (fun (r : Int32) (u : tw_U) => r = 0 ∧ u = ([(mm, .inr (10, [.int 1, .int 9, .int 0, .int 99, .ref c2, .ref ps2, .ref pr, .int 0, .int 0, .int ((-1)), .ref l2, .long 0]))], [])) (tw_B D (va_A [(mm, .inr (10, [.int 0, .int 9, .int 0, .int 99, .ref c2, .ref ps2, .ref pr, .int 0, .int 0, .int ((-1)), .ref l2, .long 0])), (c2, .inr (3, [.int 0, .ref em, .int 0]))] sz)) (va_A [(mm, .inr (10, [.int 0, .int 9, .int 0, .int 99, .ref c2, .ref ps2, .ref pr, .int 0, .int 0, .int ((-1)), .ref l2, .long 0])), (c2, .inr (3, [.int 0, .ref em, .int 0]))] sz)) 0 0 (va_A [(mm, .inr (10, [.int 0, .int 9, .int 0, .int 99, .ref c2, .ref ps2, .ref pr, .int 0, .int 0, .int ((-1)), .ref l2, .long 0])), (c2, .inr (3, [.int 0, .ref em, .int 0]))] sz) := by
  refine Met.ofW (cc := cX6_fail) (maxL := 5) (ret := (some .boolean)) (by decide) rfl ?_
  intro p e s m args below meth c s₁ B hml hv
  obtain ⟨rfl, hsz, hP, hK, hD0, hF⟩ := hv
  have hx := B.exec
  have hb := B.bytes
  have hr := B.returns
  have hts := atoms_spec (ws := wsX6_fail) B.pre
  have hown : s.vm.findClass RX6 = some m.cls := findClass_of_methodNamed B.named
  have hlocks := B.notSynchronized
  have hiRX6 : ∀ w ∈ u_ws RX6 TX6 12, w ∈ wsX6_fail := by decide +kernel
  subst hsz
  have hD := hD0.self (sz := s.heap.size)
  generalize hAe : va_A [(mm, .inr (10, [.int 0, .int 9, .int 0, .int 99, .ref c2, .ref ps2, .ref pr, .int 0, .int 0, .int ((-1)), .ref l2, .long 0])), (c2, .inr (3, [.int 0, .ref em, .int 0]))] s.heap.size = A at hD hF ⊢
  have hA : ∀ q : Nat, s.heap.size ≤ q → A q := fun q h => by rw [← hAe]; exact Or.inr h
  have hS : va_S A s.heap s.heap [] := va_S.rf
  have hP : va_P D vwCl [(mm, .inr (10, [.int 0, .int 9, .int 0, .int 99, .ref c2, .ref ps2, .ref pr, .int 0, .int 0, .int ((-1)), .ref l2, .long 0])), (c2, .inr (3, [.int 0, .ref em, .int 0]))] s.heap := hP
  have hl := lv_entry ([.ref mm, .int p0, .int p1]) (n := 5) (Nat.le_of_ble_eq_true rfl)
  rw [lg_entry_eq]
  generalize (lg_sl ([.ref mm, .int p0, .int p1]) ++ List.replicate (5 - (lg_sl ([.ref mm, .int p0, .int p1])).length) Slot.unset).toArray = ls at hl ⊢
  have hl : lv_has ls 5 [(0, .ref mm), (1, .int p0), (2, .int p1)] := hl
  refine lv_aload_n hx hb dX6_fail_0 rfl (lv_at hl 0 rfl) ?_
  refine lv_aload_n hx hb dX6_fail_1 rfl (lv_at hl 0 rfl) ?_
  refine lv_iload_n hx hb dX6_fail_2 rfl (lv_at hl 1 rfl) ?_
  have hPc := hP.sub (ws' := [(mm, .inr (10, [.int 0, .int 9, .int 0, .int 99, .ref c2, .ref ps2, .ref pr, .int 0, .int 0, .int ((-1)), .ref l2, .long 0])), (c2, .inr (3, [.int 0, .ref em, .int 0]))]) [0, 1] rfl
  have hDc := hD.sub (ws' := [(mm, .inr (10, [.int 0, .int 9, .int 0, .int 99, .ref c2, .ref ps2, .ref pr, .int 0, .int 0, .int ((-1)), .ref l2, .long 0])), (c2, .inr (3, [.int 0, .ref em, .int 0]))]) [0, 1] (by decide) rfl
  have hKc := hK.sub (tys' := []) [] rfl
  have hFc := va_free (wc := [(mm, .inr (10, [.int 0, .int 9, .int 0, .int 99, .ref c2, .ref ps2, .ref pr, .int 0, .int 0, .int ((-1)), .ref l2, .long 0])), (c2, .inr (3, [.int 0, .ref em, .int 0]))]) hD hS hA [0, 1] rfl
  refine va_calli (va_runV (As := [.int p0]) (rest := [.ref mm]) ⟨hx, hb, hml, hown, hts⟩ (c_X6_isCar l hst em kw kb D mm p0 c2 ps2 pr l2 _) (cwV 1 hts gX6_fail_X6_isCar rfl rfl rfl (by decide +kernel) ⟨(Nat.le_of_ble_eq_true rfl), (Nat.le_of_ble_eq_true rfl)⟩) (tw_preV hF hS hFc hPc hKc hDc (va_recv hKc hPc (ci := 10) (q0 := 0) rfl rfl)) rfl rfl hl.1 rfl (lv_room (Nat.le_of_ble_eq_true rfl)) dX6_fail_3 ⟨(Nat.le_of_ble_eq_true rfl), (Nat.le_of_ble_eq_true rfl)⟩) hS (fun q _ h => hFc q h) hFc (fun r u t H locs ht hvm hw hB hz1 hk1 hS => ?_)
  obtain ⟨rfl, rfl⟩ := hw
  obtain ⟨hP, hD, hK⟩ := tw_join (wr := []) hP hD hK [0, 1] [] rfl rfl (by decide) (by decide) hk1 hFc ht hvm hB
  have hP : va_P D vwCl [(mm, .inr (10, [.int 0, .int 9, .int 0, .int 99, .ref c2, .ref ps2, .ref pr, .int 0, .int 0, .int ((-1)), .ref l2, .long 0])), (c2, .inr (3, [.int 0, .ref em, .int 0]))] _ := hP
  have hD : va_D A [(mm, .inr (10, [.int 0, .int 9, .int 0, .int 99, .ref c2, .ref ps2, .ref pr, .int 0, .int 0, .int ((-1)), .ref l2, .long 0])), (c2, .inr (3, [.int 0, .ref em, .int 0]))] := hD
  have hK : va_K D vwCl [] s := hK
  refine W.widen (k := 0) (n := 0) (Nat.le_refl _) (Nat.le_refl _) ?_
  refine W.eq (g2 := F0 m 6 ls [.int 0, .ref mm]) rfl ?_
  refine lv_if_eq (tgt := 13) hx hb dX6_fail_6 (by decide) (fun c9 => ?_) (fun c9 => absurd c9 (by decide))
  refine lv_iconst (v := 1) hx hb dX6_fail_13 (by decide) ?_
  refine va_put (D := D) (ci := 10) (v := .int 1) (ty := .int) (C := RX6) (T := TX6) (N := 12) hx hb hts hiRX6 tyX6 tyX6_ok nmX6 hown hK hP hD hS 0 rfl rfl 0 (by decide) (hts (.fieldLink RX6 38 "TowerliftryModel" "thrown" "I") (by decide +kernel)) (fun _ h9 => h9) rfl (by decide +kernel) rfl rfl (Nat.le_of_ble_eq_true rfl) dX6_fail_14 (fun H locs hP hD hS => ?_)
  have hP : va_P D vwCl [(mm, .inr (10, [.int 1, .int 9, .int 0, .int 99, .ref c2, .ref ps2, .ref pr, .int 0, .int 0, .int ((-1)), .ref l2, .long 0])), (c2, .inr (3, [.int 0, .ref em, .int 0]))] _ := hP
  have hD : va_D A [(mm, .inr (10, [.int 1, .int 9, .int 0, .int 99, .ref c2, .ref ps2, .ref pr, .int 0, .int 0, .int ((-1)), .ref l2, .long 0])), (c2, .inr (3, [.int 0, .ref em, .int 0]))] := hD
  refine lv_aload_n hx hb dX6_fail_17 rfl (lv_at hl 0 rfl) ?_
  refine va_get (D := D) (ci := 10) (v := .int 1) (C := RX6) (T := TX6) (N := 12) hx hb hts hiRX6 hown hK hP 0 rfl rfl 0 (by decide) (hts (.fieldLink RX6 38 "TowerliftryModel" "thrown" "I") (by decide +kernel)) (fun _ h9 => h9) rfl dX6_fail_18 ?_
  refine lv_if_le (tgt := 26) hx hb dX6_fail_21 (by decide) (fun c9 => absurd c9 (by decide)) (fun c9 => ?_)
  refine lv_iconst (v := 0) hx hb dX6_fail_24 (by decide) ?_
  refine W.widen (k := 0) (n := 0) (Nat.le_of_ble_eq_true rfl) (Nat.le_of_ble_eq_true rfl) ?_
  have hP9 := hP.sub (ws' := [(mm, .inr (10, [.int 1, .int 9, .int 0, .int 99, .ref c2, .ref ps2, .ref pr, .int 0, .int 0, .int ((-1)), .ref l2, .long 0]))]) [0] rfl
  have hD9 := hD.sub (ws' := [(mm, .inr (10, [.int 1, .int 9, .int 0, .int 99, .ref c2, .ref ps2, .ref pr, .int 0, .int 0, .int ((-1)), .ref l2, .long 0]))]) [0] (by decide) rfl
  have hK9 := hK.sub (tys' := []) [] rfl
  exact W.zret (v := 0) (ty := .boolean) hx hb hr (by decide) (fun t ht hW => ⟨⟨0, ([(mm, .inr (10, [.int 1, .int 9, .int 0, .int 99, .ref c2, .ref ps2, .ref pr, .int 0, .int 0, .int ((-1)), .ref l2, .long 0]))], []), rfl, ⟨rfl, rfl⟩, by rw [ht]; exact hP9, va_K.moved hW.alike hK9, hD9⟩, hS.F ht⟩) hS.2.2 dX6_fail_25
set_option maxHeartbeats 4000000 in
set_option maxRecDepth 100000 in
theorem c_X6_state (l : Launch) (hst : l.stackTraces = false) (em kw kb : Nat) (D : va_G) (mm : Nat) (p0 : Int32) (c2 : Nat) (ps2 : Nat) (pr : Nat) (l2 : Nat) (sz : Nat) : Met l yX6_state wsX6_state ({ frames := 2, cells := 0, slots := 0, locals := 43 }) (va_Pc [.ref mm, .int p0] (tw_Pre em kw kb D sz [(mm, .inr (10, [.int 0, .int 9, .int 0, .int 99, .ref c2, .ref ps2, .ref pr, .int 0, .int 0, .int ((-1)), .ref l2, .long 0])), (ps2, .inr (3, [.int 0, .ref em, .int 0]))] [])) (va_Qi (fun (r : Int32) (u : tw_U) => r = 32 ∧ u = ([(mm, .inr (10, [.int 1, .int 9, .int 0, .int 99, .ref c2, .ref ps2, .ref pr, .int 0, .int 0, .int ((-1)), .ref l2, .long 0]))], [])) (tw_B D (va_A [(mm, .inr (10, [.int 0, .int 9, .int 0, .int 99, .ref c2, .ref ps2, .ref pr, .int 0, .int 0, .int ((-1)), .ref l2, .long 0])), (ps2, .inr (3, [.int 0, .ref em, .int 0]))] sz)) (va_A [(mm, .inr (10, [.int 0, .int 9, .int 0, .int 99, .ref c2, .ref ps2, .ref pr, .int 0, .int 0, .int ((-1)), .ref l2, .long 0])), (ps2, .inr (3, [.int 0, .ref em, .int 0]))] sz)) 0 0 (va_A [(mm, .inr (10, [.int 0, .int 9, .int 0, .int 99, .ref c2, .ref ps2, .ref pr, .int 0, .int 0, .int ((-1)), .ref l2, .long 0])), (ps2, .inr (3, [.int 0, .ref em, .int 0]))] sz) := by
  refine Met.ofW (cc := cX6_state) (maxL := 2) (ret := (some .char)) (by decide) rfl ?_
  intro p e s m args below meth c s₁ B hml hv
  obtain ⟨rfl, hsz, hP, hK, hD0, hF⟩ := hv
  have hx := B.exec
  have hb := B.bytes
  have hr := B.returns
  have hts := atoms_spec (ws := wsX6_state) B.pre
  have hown : s.vm.findClass RX6 = some m.cls := findClass_of_methodNamed B.named
  have hlocks := B.notSynchronized
  have hiRX6 : ∀ w ∈ u_ws RX6 TX6 12, w ∈ wsX6_state := by decide +kernel
  subst hsz
  have hD := hD0.self (sz := s.heap.size)
  generalize hAe : va_A [(mm, .inr (10, [.int 0, .int 9, .int 0, .int 99, .ref c2, .ref ps2, .ref pr, .int 0, .int 0, .int ((-1)), .ref l2, .long 0])), (ps2, .inr (3, [.int 0, .ref em, .int 0]))] s.heap.size = A at hD hF ⊢
  have hA : ∀ q : Nat, s.heap.size ≤ q → A q := fun q h => by rw [← hAe]; exact Or.inr h
  have hS : va_S A s.heap s.heap [] := va_S.rf
  have hP : va_P D vwCl [(mm, .inr (10, [.int 0, .int 9, .int 0, .int 99, .ref c2, .ref ps2, .ref pr, .int 0, .int 0, .int ((-1)), .ref l2, .long 0])), (ps2, .inr (3, [.int 0, .ref em, .int 0]))] s.heap := hP
  have hl := lv_entry ([.ref mm, .int p0]) (n := 2) (Nat.le_of_ble_eq_true rfl)
  rw [lg_entry_eq]
  generalize (lg_sl ([.ref mm, .int p0]) ++ List.replicate (2 - (lg_sl ([.ref mm, .int p0])).length) Slot.unset).toArray = ls at hl ⊢
  have hl : lv_has ls 2 [(0, .ref mm), (1, .int p0)] := hl
  refine lv_aload_n hx hb dX6_state_0 rfl (lv_at hl 0 rfl) ?_
  refine lv_aload_n hx hb dX6_state_1 rfl (lv_at hl 0 rfl) ?_
  refine lv_iload_n hx hb dX6_state_2 rfl (lv_at hl 1 rfl) ?_
  have hPc := hP.sub (ws' := [(mm, .inr (10, [.int 0, .int 9, .int 0, .int 99, .ref c2, .ref ps2, .ref pr, .int 0, .int 0, .int ((-1)), .ref l2, .long 0])), (ps2, .inr (3, [.int 0, .ref em, .int 0]))]) [0, 1] rfl
  have hDc := hD.sub (ws' := [(mm, .inr (10, [.int 0, .int 9, .int 0, .int 99, .ref c2, .ref ps2, .ref pr, .int 0, .int 0, .int ((-1)), .ref l2, .long 0])), (ps2, .inr (3, [.int 0, .ref em, .int 0]))]) [0, 1] (by decide) rfl
  have hKc := hK.sub (tys' := []) [] rfl
  have hFc := va_free (wc := [(mm, .inr (10, [.int 0, .int 9, .int 0, .int 99, .ref c2, .ref ps2, .ref pr, .int 0, .int 0, .int ((-1)), .ref l2, .long 0])), (ps2, .inr (3, [.int 0, .ref em, .int 0]))]) hD hS hA [0, 1] rfl
  refine va_calli (va_runV (As := [.int p0]) (rest := [.ref mm]) ⟨hx, hb, hml, hown, hts⟩ (c_X6_isPerson l hst em kw kb D mm p0 c2 ps2 pr l2 _) (cwV 1 hts gX6_state_X6_isPerson rfl rfl rfl (by decide +kernel) ⟨(Nat.le_of_ble_eq_true rfl), (Nat.le_of_ble_eq_true rfl)⟩) (tw_preV hF hS hFc hPc hKc hDc (va_recv hKc hPc (ci := 10) (q0 := 0) rfl rfl)) rfl rfl hl.1 rfl (lv_room (Nat.le_of_ble_eq_true rfl)) dX6_state_3 ⟨(Nat.le_of_ble_eq_true rfl), (Nat.le_of_ble_eq_true rfl)⟩) hS (fun q _ h => hFc q h) hFc (fun r u t H locs ht hvm hw hB hz1 hk1 hS => ?_)
  obtain ⟨rfl, rfl⟩ := hw
  obtain ⟨hP, hD, hK⟩ := tw_join (wr := []) hP hD hK [0, 1] [] rfl rfl (by decide) (by decide) hk1 hFc ht hvm hB
  have hP : va_P D vwCl [(mm, .inr (10, [.int 0, .int 9, .int 0, .int 99, .ref c2, .ref ps2, .ref pr, .int 0, .int 0, .int ((-1)), .ref l2, .long 0])), (ps2, .inr (3, [.int 0, .ref em, .int 0]))] _ := hP
  have hD : va_D A [(mm, .inr (10, [.int 0, .int 9, .int 0, .int 99, .ref c2, .ref ps2, .ref pr, .int 0, .int 0, .int ((-1)), .ref l2, .long 0])), (ps2, .inr (3, [.int 0, .ref em, .int 0]))] := hD
  have hK : va_K D vwCl [] s := hK
  refine W.widen (k := 0) (n := 0) (Nat.le_refl _) (Nat.le_refl _) ?_
  refine W.eq (g2 := F0 m 6 ls [.int 0, .ref mm]) rfl ?_
  refine lv_if_eq (tgt := 13) hx hb dX6_state_6 (by decide) (fun c9 => ?_) (fun c9 => absurd c9 (by decide))
  refine lv_iconst (v := 1) hx hb dX6_state_13 (by decide) ?_
  refine va_put (D := D) (ci := 10) (v := .int 1) (ty := .int) (C := RX6) (T := TX6) (N := 12) hx hb hts hiRX6 tyX6 tyX6_ok nmX6 hown hK hP hD hS 0 rfl rfl 0 (by decide) (hts (.fieldLink RX6 38 "TowerliftryModel" "thrown" "I") (by decide +kernel)) (fun _ h9 => h9) rfl (by decide +kernel) rfl rfl (Nat.le_of_ble_eq_true rfl) dX6_state_14 (fun H locs hP hD hS => ?_)
  have hP : va_P D vwCl [(mm, .inr (10, [.int 1, .int 9, .int 0, .int 99, .ref c2, .ref ps2, .ref pr, .int 0, .int 0, .int ((-1)), .ref l2, .long 0])), (ps2, .inr (3, [.int 0, .ref em, .int 0]))] _ := hP
  have hD : va_D A [(mm, .inr (10, [.int 1, .int 9, .int 0, .int 99, .ref c2, .ref ps2, .ref pr, .int 0, .int 0, .int ((-1)), .ref l2, .long 0])), (ps2, .inr (3, [.int 0, .ref em, .int 0]))] := hD
  refine lv_aload_n hx hb dX6_state_17 rfl (lv_at hl 0 rfl) ?_
  refine va_get (D := D) (ci := 10) (v := .int 1) (C := RX6) (T := TX6) (N := 12) hx hb hts hiRX6 hown hK hP 0 rfl rfl 0 (by decide) (hts (.fieldLink RX6 38 "TowerliftryModel" "thrown" "I") (by decide +kernel)) (fun _ h9 => h9) rfl dX6_state_18 ?_
  refine lv_if_le (tgt := 29) hx hb dX6_state_21 (by decide) (fun c9 => absurd c9 (by decide)) (fun c9 => ?_)
  refine lv_bipush (v := 32) hx hb dX6_state_24 (by decide) ?_
  refine lv_goto (tgt := 43) hx hb dX6_state_26 (by decide) ?_
  refine W.widen (k := 0) (n := 0) (Nat.le_of_ble_eq_true rfl) (Nat.le_of_ble_eq_true rfl) ?_
  have hP9 := hP.sub (ws' := [(mm, .inr (10, [.int 1, .int 9, .int 0, .int 99, .ref c2, .ref ps2, .ref pr, .int 0, .int 0, .int ((-1)), .ref l2, .long 0]))]) [0] rfl
  have hD9 := hD.sub (ws' := [(mm, .inr (10, [.int 1, .int 9, .int 0, .int 99, .ref c2, .ref ps2, .ref pr, .int 0, .int 0, .int ((-1)), .ref l2, .long 0]))]) [0] (by decide) rfl
  have hK9 := hK.sub (tys' := []) [] rfl
  exact W.zret (v := 32) (ty := .char) hx hb hr (by decide) (fun t ht hW => ⟨⟨32, ([(mm, .inr (10, [.int 1, .int 9, .int 0, .int 99, .ref c2, .ref ps2, .ref pr, .int 0, .int 0, .int ((-1)), .ref l2, .long 0]))], []), rfl, ⟨rfl, rfl⟩, by rw [ht]; exact hP9, va_K.moved hW.alike hK9, hD9⟩, hS.F ht⟩) hS.2.2 dX6_state_43
set_option maxHeartbeats 4000000 in
set_option maxRecDepth 100000 in
theorem c_X6_placeOf (l : Launch) (hst : l.stackTraces = false) (em kw kb : Nat) (D : va_G) (mm : Nat) (p0 : Int32) (c2 : Nat) (ps2 : Nat) (pr : Nat) (l2 : Nat) (sz : Nat) : Met l yX6_placeOf wsX6_placeOf ({ frames := 2, cells := 0, slots := 0, locals := 43 }) (va_Pc [.ref mm, .int p0] (tw_Pre em kw kb D sz [(mm, .inr (10, [.int 0, .int 9, .int 0, .int 99, .ref c2, .ref ps2, .ref pr, .int 0, .int 0, .int ((-1)), .ref l2, .long 0])), (ps2, .inr (3, [.int 0, .ref em, .int 0]))] [])) (va_Qi (fun (r : Int32) (u : tw_U) => r = 0 ∧ u = ([(mm, .inr (10, [.int 1, .int 9, .int 0, .int 99, .ref c2, .ref ps2, .ref pr, .int 0, .int 0, .int ((-1)), .ref l2, .long 0]))], [])) (tw_B D (va_A [(mm, .inr (10, [.int 0, .int 9, .int 0, .int 99, .ref c2, .ref ps2, .ref pr, .int 0, .int 0, .int ((-1)), .ref l2, .long 0])), (ps2, .inr (3, [.int 0, .ref em, .int 0]))] sz)) (va_A [(mm, .inr (10, [.int 0, .int 9, .int 0, .int 99, .ref c2, .ref ps2, .ref pr, .int 0, .int 0, .int ((-1)), .ref l2, .long 0])), (ps2, .inr (3, [.int 0, .ref em, .int 0]))] sz)) 0 0 (va_A [(mm, .inr (10, [.int 0, .int 9, .int 0, .int 99, .ref c2, .ref ps2, .ref pr, .int 0, .int 0, .int ((-1)), .ref l2, .long 0])), (ps2, .inr (3, [.int 0, .ref em, .int 0]))] sz) := by
  refine Met.ofW (cc := cX6_placeOf) (maxL := 3) (ret := (some .int)) (by decide) rfl ?_
  intro p e s m args below meth c s₁ B hml hv
  obtain ⟨rfl, hsz, hP, hK, hD0, hF⟩ := hv
  have hx := B.exec
  have hb := B.bytes
  have hr := B.returns
  have hts := atoms_spec (ws := wsX6_placeOf) B.pre
  have hown : s.vm.findClass RX6 = some m.cls := findClass_of_methodNamed B.named
  have hlocks := B.notSynchronized
  subst hsz
  have hD := hD0.self (sz := s.heap.size)
  generalize hAe : va_A [(mm, .inr (10, [.int 0, .int 9, .int 0, .int 99, .ref c2, .ref ps2, .ref pr, .int 0, .int 0, .int ((-1)), .ref l2, .long 0])), (ps2, .inr (3, [.int 0, .ref em, .int 0]))] s.heap.size = A at hD hF ⊢
  have hA : ∀ q : Nat, s.heap.size ≤ q → A q := fun q h => by rw [← hAe]; exact Or.inr h
  have hS : va_S A s.heap s.heap [] := va_S.rf
  have hP : va_P D vwCl [(mm, .inr (10, [.int 0, .int 9, .int 0, .int 99, .ref c2, .ref ps2, .ref pr, .int 0, .int 0, .int ((-1)), .ref l2, .long 0])), (ps2, .inr (3, [.int 0, .ref em, .int 0]))] s.heap := hP
  have hl := lv_entry ([.ref mm, .int p0]) (n := 3) (Nat.le_of_ble_eq_true rfl)
  rw [lg_entry_eq]
  generalize (lg_sl ([.ref mm, .int p0]) ++ List.replicate (3 - (lg_sl ([.ref mm, .int p0])).length) Slot.unset).toArray = ls at hl ⊢
  have hl : lv_has ls 3 [(0, .ref mm), (1, .int p0)] := hl
  refine lv_aload_n hx hb dX6_placeOf_0 rfl (lv_at hl 0 rfl) ?_
  refine lv_iload_n hx hb dX6_placeOf_1 rfl (lv_at hl 1 rfl) ?_
  have hPc := hP.sub (ws' := [(mm, .inr (10, [.int 0, .int 9, .int 0, .int 99, .ref c2, .ref ps2, .ref pr, .int 0, .int 0, .int ((-1)), .ref l2, .long 0])), (ps2, .inr (3, [.int 0, .ref em, .int 0]))]) [0, 1] rfl
  have hDc := hD.sub (ws' := [(mm, .inr (10, [.int 0, .int 9, .int 0, .int 99, .ref c2, .ref ps2, .ref pr, .int 0, .int 0, .int ((-1)), .ref l2, .long 0])), (ps2, .inr (3, [.int 0, .ref em, .int 0]))]) [0, 1] (by decide) rfl
  have hKc := hK.sub (tys' := []) [] rfl
  have hFc := va_free (wc := [(mm, .inr (10, [.int 0, .int 9, .int 0, .int 99, .ref c2, .ref ps2, .ref pr, .int 0, .int 0, .int ((-1)), .ref l2, .long 0])), (ps2, .inr (3, [.int 0, .ref em, .int 0]))]) hD hS hA [0, 1] rfl
  refine va_calli (va_runV (As := [.int p0]) (rest := []) ⟨hx, hb, hml, hown, hts⟩ (c_X6_isPerson l hst em kw kb D mm p0 c2 ps2 pr l2 _) (cwV 1 hts gX6_placeOf_X6_isPerson rfl rfl rfl (by decide +kernel) ⟨(Nat.le_of_ble_eq_true rfl), (Nat.le_of_ble_eq_true rfl)⟩) (tw_preV hF hS hFc hPc hKc hDc (va_recv hKc hPc (ci := 10) (q0 := 0) rfl rfl)) rfl rfl hl.1 rfl (lv_room (Nat.le_of_ble_eq_true rfl)) dX6_placeOf_2 ⟨(Nat.le_of_ble_eq_true rfl), (Nat.le_of_ble_eq_true rfl)⟩) hS (fun q _ h => hFc q h) hFc (fun r u t H locs ht hvm hw hB hz1 hk1 hS => ?_)
  obtain ⟨rfl, rfl⟩ := hw
  obtain ⟨hP, hD, hK⟩ := tw_join (wr := []) hP hD hK [0, 1] [] rfl rfl (by decide) (by decide) hk1 hFc ht hvm hB
  have hP : va_P D vwCl [(mm, .inr (10, [.int 0, .int 9, .int 0, .int 99, .ref c2, .ref ps2, .ref pr, .int 0, .int 0, .int ((-1)), .ref l2, .long 0])), (ps2, .inr (3, [.int 0, .ref em, .int 0]))] _ := hP
  have hD : va_D A [(mm, .inr (10, [.int 0, .int 9, .int 0, .int 99, .ref c2, .ref ps2, .ref pr, .int 0, .int 0, .int ((-1)), .ref l2, .long 0])), (ps2, .inr (3, [.int 0, .ref em, .int 0]))] := hD
  have hK : va_K D vwCl [] s := hK
  refine W.widen (k := 0) (n := 0) (Nat.le_refl _) (Nat.le_refl _) ?_
  refine W.eq (g2 := F0 m 5 ls [.int 0]) rfl ?_
  refine lv_if_ne (tgt := 14) hx hb dX6_placeOf_5 (by decide) (fun c9 => absurd c9 (by decide)) (fun c9 => ?_)
  refine lv_aload_n hx hb dX6_placeOf_8 rfl (lv_at hl 0 rfl) ?_
  refine lv_iconst (v := 1) hx hb dX6_placeOf_9 (by decide) ?_
  have hPc := hP.sub (ws' := [(mm, .inr (10, [.int 0, .int 9, .int 0, .int 99, .ref c2, .ref ps2, .ref pr, .int 0, .int 0, .int ((-1)), .ref l2, .long 0]))]) [0] rfl
  have hDc := hD.sub (ws' := [(mm, .inr (10, [.int 0, .int 9, .int 0, .int 99, .ref c2, .ref ps2, .ref pr, .int 0, .int 0, .int ((-1)), .ref l2, .long 0]))]) [0] (by decide) rfl
  have hKc := hK.sub (tys' := []) [] rfl
  have hFc := va_free (wc := [(mm, .inr (10, [.int 0, .int 9, .int 0, .int 99, .ref c2, .ref ps2, .ref pr, .int 0, .int 0, .int ((-1)), .ref l2, .long 0]))]) hD hS hA [0] rfl
  refine va_calli (va_runV (As := [.int 1]) (rest := []) ⟨hx, hb, hml, hown, hts⟩ (c_X6_fails l hst em kw kb D mm 1 0 9 0 99 c2 ps2 pr 0 0 ((-1)) l2 0 _) (cwV 1 hts gX6_placeOf_X6_fails rfl rfl rfl (by decide +kernel) ⟨(Nat.le_of_ble_eq_true rfl), (Nat.le_of_ble_eq_true rfl)⟩) (tw_preV hF hS hFc hPc hKc hDc (va_recv hKc hPc (ci := 10) (q0 := 0) rfl rfl)) rfl rfl hl.1 rfl (lv_room (Nat.le_of_ble_eq_true rfl)) dX6_placeOf_10 ⟨(Nat.le_of_ble_eq_true rfl), (Nat.le_of_ble_eq_true rfl)⟩) hS (fun q _ h => hFc q h) hFc (fun r u t H locs ht hvm hw hB hz1 hk1 hS => ?_)
  obtain ⟨rfl, rfl⟩ := hw
  obtain ⟨hP, hD, hK⟩ := tw_join (wr := [(ps2, .inr (3, [.int 0, .ref em, .int 0]))]) hP hD hK [0] [1] rfl rfl (by decide) (by decide) hk1 hFc ht hvm hB
  have hP : va_P D vwCl [(ps2, .inr (3, [.int 0, .ref em, .int 0])), (mm, .inr (10, [.int 1, .int 9, .int 0, .int 99, .ref c2, .ref ps2, .ref pr, .int 0, .int 0, .int ((-1)), .ref l2, .long 0]))] _ := hP
  have hD : va_D A [(ps2, .inr (3, [.int 0, .ref em, .int 0])), (mm, .inr (10, [.int 1, .int 9, .int 0, .int 99, .ref c2, .ref ps2, .ref pr, .int 0, .int 0, .int ((-1)), .ref l2, .long 0]))] := hD
  have hK : va_K D vwCl [] s := hK
  refine W.widen (k := 0) (n := 0) (Nat.le_refl _) (Nat.le_refl _) ?_
  refine W.eq (g2 := F0 m 13 ls [.int 0]) rfl ?_
  refine W.widen (k := 0) (n := 0) (Nat.le_of_ble_eq_true rfl) (Nat.le_of_ble_eq_true rfl) ?_
  have hP9 := hP.sub (ws' := [(mm, .inr (10, [.int 1, .int 9, .int 0, .int 99, .ref c2, .ref ps2, .ref pr, .int 0, .int 0, .int ((-1)), .ref l2, .long 0]))]) [1] rfl
  have hD9 := hD.sub (ws' := [(mm, .inr (10, [.int 1, .int 9, .int 0, .int 99, .ref c2, .ref ps2, .ref pr, .int 0, .int 0, .int ((-1)), .ref l2, .long 0]))]) [1] (by decide) rfl
  have hK9 := hK.sub (tys' := []) [] rfl
  exact W.iret (v := 0) hx hb hr (fun t ht hW => ⟨⟨0, ([(mm, .inr (10, [.int 1, .int 9, .int 0, .int 99, .ref c2, .ref ps2, .ref pr, .int 0, .int 0, .int ((-1)), .ref l2, .long 0]))], []), rfl, ⟨rfl, rfl⟩, by rw [ht]; exact hP9, va_K.moved hW.alike hK9, hD9⟩, hS.F ht⟩) hS.2.2 dX6_placeOf_13
set_option maxHeartbeats 4000000 in
set_option maxRecDepth 100000 in
theorem c_X6_waited (l : Launch) (hst : l.stackTraces = false) (em kw kb : Nat) (D : va_G) (mm : Nat) (p0 : Int32) (c2 : Nat) (ps2 : Nat) (pr : Nat) (l2 : Nat) (sz : Nat) : Met l yX6_waited wsX6_waited ({ frames := 2, cells := 0, slots := 0, locals := 43 }) (va_Pc [.ref mm, .int p0] (tw_Pre em kw kb D sz [(mm, .inr (10, [.int 0, .int 9, .int 0, .int 99, .ref c2, .ref ps2, .ref pr, .int 0, .int 0, .int ((-1)), .ref l2, .long 0])), (ps2, .inr (3, [.int 0, .ref em, .int 0]))] [])) (va_Qi (fun (r : Int32) (u : tw_U) => r = 0 ∧ u = ([(mm, .inr (10, [.int 1, .int 9, .int 0, .int 99, .ref c2, .ref ps2, .ref pr, .int 0, .int 0, .int ((-1)), .ref l2, .long 0]))], [])) (tw_B D (va_A [(mm, .inr (10, [.int 0, .int 9, .int 0, .int 99, .ref c2, .ref ps2, .ref pr, .int 0, .int 0, .int ((-1)), .ref l2, .long 0])), (ps2, .inr (3, [.int 0, .ref em, .int 0]))] sz)) (va_A [(mm, .inr (10, [.int 0, .int 9, .int 0, .int 99, .ref c2, .ref ps2, .ref pr, .int 0, .int 0, .int ((-1)), .ref l2, .long 0])), (ps2, .inr (3, [.int 0, .ref em, .int 0]))] sz)) 0 0 (va_A [(mm, .inr (10, [.int 0, .int 9, .int 0, .int 99, .ref c2, .ref ps2, .ref pr, .int 0, .int 0, .int ((-1)), .ref l2, .long 0])), (ps2, .inr (3, [.int 0, .ref em, .int 0]))] sz) := by
  refine Met.ofW (cc := cX6_waited) (maxL := 2) (ret := (some .int)) (by decide) rfl ?_
  intro p e s m args below meth c s₁ B hml hv
  obtain ⟨rfl, hsz, hP, hK, hD0, hF⟩ := hv
  have hx := B.exec
  have hb := B.bytes
  have hr := B.returns
  have hts := atoms_spec (ws := wsX6_waited) B.pre
  have hown : s.vm.findClass RX6 = some m.cls := findClass_of_methodNamed B.named
  have hlocks := B.notSynchronized
  subst hsz
  have hD := hD0.self (sz := s.heap.size)
  generalize hAe : va_A [(mm, .inr (10, [.int 0, .int 9, .int 0, .int 99, .ref c2, .ref ps2, .ref pr, .int 0, .int 0, .int ((-1)), .ref l2, .long 0])), (ps2, .inr (3, [.int 0, .ref em, .int 0]))] s.heap.size = A at hD hF ⊢
  have hA : ∀ q : Nat, s.heap.size ≤ q → A q := fun q h => by rw [← hAe]; exact Or.inr h
  have hS : va_S A s.heap s.heap [] := va_S.rf
  have hP : va_P D vwCl [(mm, .inr (10, [.int 0, .int 9, .int 0, .int 99, .ref c2, .ref ps2, .ref pr, .int 0, .int 0, .int ((-1)), .ref l2, .long 0])), (ps2, .inr (3, [.int 0, .ref em, .int 0]))] s.heap := hP
  have hl := lv_entry ([.ref mm, .int p0]) (n := 2) (Nat.le_of_ble_eq_true rfl)
  rw [lg_entry_eq]
  generalize (lg_sl ([.ref mm, .int p0]) ++ List.replicate (2 - (lg_sl ([.ref mm, .int p0])).length) Slot.unset).toArray = ls at hl ⊢
  have hl : lv_has ls 2 [(0, .ref mm), (1, .int p0)] := hl
  refine lv_aload_n hx hb dX6_waited_0 rfl (lv_at hl 0 rfl) ?_
  refine lv_iload_n hx hb dX6_waited_1 rfl (lv_at hl 1 rfl) ?_
  have hPc := hP.sub (ws' := [(mm, .inr (10, [.int 0, .int 9, .int 0, .int 99, .ref c2, .ref ps2, .ref pr, .int 0, .int 0, .int ((-1)), .ref l2, .long 0])), (ps2, .inr (3, [.int 0, .ref em, .int 0]))]) [0, 1] rfl
  have hDc := hD.sub (ws' := [(mm, .inr (10, [.int 0, .int 9, .int 0, .int 99, .ref c2, .ref ps2, .ref pr, .int 0, .int 0, .int ((-1)), .ref l2, .long 0])), (ps2, .inr (3, [.int 0, .ref em, .int 0]))]) [0, 1] (by decide) rfl
  have hKc := hK.sub (tys' := []) [] rfl
  have hFc := va_free (wc := [(mm, .inr (10, [.int 0, .int 9, .int 0, .int 99, .ref c2, .ref ps2, .ref pr, .int 0, .int 0, .int ((-1)), .ref l2, .long 0])), (ps2, .inr (3, [.int 0, .ref em, .int 0]))]) hD hS hA [0, 1] rfl
  refine va_calli (va_runV (As := [.int p0]) (rest := []) ⟨hx, hb, hml, hown, hts⟩ (c_X6_isPerson l hst em kw kb D mm p0 c2 ps2 pr l2 _) (cwV 1 hts gX6_waited_X6_isPerson rfl rfl rfl (by decide +kernel) ⟨(Nat.le_of_ble_eq_true rfl), (Nat.le_of_ble_eq_true rfl)⟩) (tw_preV hF hS hFc hPc hKc hDc (va_recv hKc hPc (ci := 10) (q0 := 0) rfl rfl)) rfl rfl hl.1 rfl (lv_room (Nat.le_of_ble_eq_true rfl)) dX6_waited_2 ⟨(Nat.le_of_ble_eq_true rfl), (Nat.le_of_ble_eq_true rfl)⟩) hS (fun q _ h => hFc q h) hFc (fun r u t H locs ht hvm hw hB hz1 hk1 hS => ?_)
  obtain ⟨rfl, rfl⟩ := hw
  obtain ⟨hP, hD, hK⟩ := tw_join (wr := []) hP hD hK [0, 1] [] rfl rfl (by decide) (by decide) hk1 hFc ht hvm hB
  have hP : va_P D vwCl [(mm, .inr (10, [.int 0, .int 9, .int 0, .int 99, .ref c2, .ref ps2, .ref pr, .int 0, .int 0, .int ((-1)), .ref l2, .long 0])), (ps2, .inr (3, [.int 0, .ref em, .int 0]))] _ := hP
  have hD : va_D A [(mm, .inr (10, [.int 0, .int 9, .int 0, .int 99, .ref c2, .ref ps2, .ref pr, .int 0, .int 0, .int ((-1)), .ref l2, .long 0])), (ps2, .inr (3, [.int 0, .ref em, .int 0]))] := hD
  have hK : va_K D vwCl [] s := hK
  refine W.widen (k := 0) (n := 0) (Nat.le_refl _) (Nat.le_refl _) ?_
  refine W.eq (g2 := F0 m 5 ls [.int 0]) rfl ?_
  refine lv_if_eq (tgt := 29) hx hb dX6_waited_5 (by decide) (fun c9 => ?_) (fun c9 => absurd c9 (by decide))
  refine lv_aload_n hx hb dX6_waited_29 rfl (lv_at hl 0 rfl) ?_
  refine lv_iconst (v := 1) hx hb dX6_waited_30 (by decide) ?_
  have hPc := hP.sub (ws' := [(mm, .inr (10, [.int 0, .int 9, .int 0, .int 99, .ref c2, .ref ps2, .ref pr, .int 0, .int 0, .int ((-1)), .ref l2, .long 0]))]) [0] rfl
  have hDc := hD.sub (ws' := [(mm, .inr (10, [.int 0, .int 9, .int 0, .int 99, .ref c2, .ref ps2, .ref pr, .int 0, .int 0, .int ((-1)), .ref l2, .long 0]))]) [0] (by decide) rfl
  have hKc := hK.sub (tys' := []) [] rfl
  have hFc := va_free (wc := [(mm, .inr (10, [.int 0, .int 9, .int 0, .int 99, .ref c2, .ref ps2, .ref pr, .int 0, .int 0, .int ((-1)), .ref l2, .long 0]))]) hD hS hA [0] rfl
  refine va_calli (va_runV (As := [.int 1]) (rest := []) ⟨hx, hb, hml, hown, hts⟩ (c_X6_fails l hst em kw kb D mm 1 0 9 0 99 c2 ps2 pr 0 0 ((-1)) l2 0 _) (cwV 1 hts gX6_waited_X6_fails rfl rfl rfl (by decide +kernel) ⟨(Nat.le_of_ble_eq_true rfl), (Nat.le_of_ble_eq_true rfl)⟩) (tw_preV hF hS hFc hPc hKc hDc (va_recv hKc hPc (ci := 10) (q0 := 0) rfl rfl)) rfl rfl hl.1 rfl (lv_room (Nat.le_of_ble_eq_true rfl)) dX6_waited_31 ⟨(Nat.le_of_ble_eq_true rfl), (Nat.le_of_ble_eq_true rfl)⟩) hS (fun q _ h => hFc q h) hFc (fun r u t H locs ht hvm hw hB hz1 hk1 hS => ?_)
  obtain ⟨rfl, rfl⟩ := hw
  obtain ⟨hP, hD, hK⟩ := tw_join (wr := [(ps2, .inr (3, [.int 0, .ref em, .int 0]))]) hP hD hK [0] [1] rfl rfl (by decide) (by decide) hk1 hFc ht hvm hB
  have hP : va_P D vwCl [(ps2, .inr (3, [.int 0, .ref em, .int 0])), (mm, .inr (10, [.int 1, .int 9, .int 0, .int 99, .ref c2, .ref ps2, .ref pr, .int 0, .int 0, .int ((-1)), .ref l2, .long 0]))] _ := hP
  have hD : va_D A [(ps2, .inr (3, [.int 0, .ref em, .int 0])), (mm, .inr (10, [.int 1, .int 9, .int 0, .int 99, .ref c2, .ref ps2, .ref pr, .int 0, .int 0, .int ((-1)), .ref l2, .long 0]))] := hD
  have hK : va_K D vwCl [] s := hK
  refine W.widen (k := 0) (n := 0) (Nat.le_refl _) (Nat.le_refl _) ?_
  refine W.eq (g2 := F0 m 34 ls [.int 0]) rfl ?_
  refine W.widen (k := 0) (n := 0) (Nat.le_of_ble_eq_true rfl) (Nat.le_of_ble_eq_true rfl) ?_
  have hP9 := hP.sub (ws' := [(mm, .inr (10, [.int 1, .int 9, .int 0, .int 99, .ref c2, .ref ps2, .ref pr, .int 0, .int 0, .int ((-1)), .ref l2, .long 0]))]) [1] rfl
  have hD9 := hD.sub (ws' := [(mm, .inr (10, [.int 1, .int 9, .int 0, .int 99, .ref c2, .ref ps2, .ref pr, .int 0, .int 0, .int ((-1)), .ref l2, .long 0]))]) [1] (by decide) rfl
  have hK9 := hK.sub (tys' := []) [] rfl
  exact W.iret (v := 0) hx hb hr (fun t ht hW => ⟨⟨0, ([(mm, .inr (10, [.int 1, .int 9, .int 0, .int 99, .ref c2, .ref ps2, .ref pr, .int 0, .int 0, .int ((-1)), .ref l2, .long 0]))], []), rfl, ⟨rfl, rfl⟩, by rw [ht]; exact hP9, va_K.moved hW.alike hK9, hD9⟩, hS.F ht⟩) hS.2.2 dX6_waited_34
