theorem dX6_promised_0 : decode cX6_promised 0 = .ok (.aload_n 0, 1) := by decide +kernel
theorem dX6_promised_1 : decode cX6_promised 1 = .ok (.iload_n 1, 1) := by decide +kernel
set_option maxRecDepth 20000 in
theorem ggX6_promised_X6_isFloor : GoodIn wsX6_promised wsX6_isFloor := goodIn_r _ [6, 7, 8, 9, 5, 10, 20, 21, 22, 23, 24, 25, 26, 27, 28, 29, 30, 31] (by decide +kernel) (by decide +kernel)
set_option maxRecDepth 20000 in
theorem gX6_promised_X6_isFloor : GoodIn wsX6_promised (wsV RX6 56 RX6 yX6_isFloor wsX6_isFloor) := goodIn_app (goodIn_of _ (by decide +kernel)) ggX6_promised_X6_isFloor
theorem dX6_promised_2 : decode cX6_promised 2 = .ok (.invokevirtual 56, 3) := by decide +kernel
theorem dX6_promised_5 : decode cX6_promised 5 = .ok (.ifCond .ne 9, 3) := by decide +kernel
theorem dX6_promised_8 : decode cX6_promised 8 = .ok (.aload_n 0, 1) := by decide +kernel
theorem dX6_promised_9 : decode cX6_promised 9 = .ok (.iconst 1, 1) := by decide +kernel
set_option maxRecDepth 20000 in
theorem ggX6_promised_X6_fails : GoodIn wsX6_promised wsX6_fails := goodIn_r _ [14, 15, 20, 21, 22, 23, 24, 25, 26, 27, 28, 29, 30, 31] (by decide +kernel) (by decide +kernel)
set_option maxRecDepth 20000 in
theorem gX6_promised_X6_fails : GoodIn wsX6_promised (wsV RX6 45 RX6 yX6_fails wsX6_fails) := goodIn_app (goodIn_of _ (by decide +kernel)) ggX6_promised_X6_fails
theorem dX6_promised_10 : decode cX6_promised 10 = .ok (.invokevirtual 45, 3) := by decide +kernel
theorem dX6_promised_13 : decode cX6_promised 13 = .ok (.ireturn, 1) := by decide +kernel
theorem dX6_promised_14 : decode cX6_promised 14 = .ok (.aload_n 0, 1) := by decide +kernel
theorem dX6_promised_15 : decode cX6_promised 15 = .ok (.getfield 29, 3) := by decide +kernel
theorem dX6_promised_18 : decode cX6_promised 18 = .ok (.iload_n 2, 1) := by decide +kernel
theorem dX6_promised_19 : decode cX6_promised 19 = .ok (.ifCond .eq 7, 3) := by decide +kernel
theorem dX6_promised_26 : decode cX6_promised 26 = .ok (.iconst 0, 1) := by decide +kernel
theorem dX6_promised_27 : decode cX6_promised 27 = .ok (.aaload, 1) := by decide +kernel
theorem dX6_promised_28 : decode cX6_promised 28 = .ok (.iload_n 1, 1) := by decide +kernel
theorem dX6_promised_29 : decode cX6_promised 29 = .ok (.aaload, 1) := by decide +kernel
theorem dX6_promised_30 : decode cX6_promised 30 = .ok (.astore_n 3, 1) := by decide +kernel
theorem dX6_promised_31 : decode cX6_promised 31 = .ok (.aload_n 3, 1) := by decide +kernel
theorem dX6_promised_32 : decode cX6_promised 32 = .ok (.ifnonnull 11, 3) := by decide +kernel
theorem dX6_promised_35 : decode cX6_promised 35 = .ok (.aload_n 0, 1) := by decide +kernel
theorem dX6_promised_36 : decode cX6_promised 36 = .ok (.iconst 2, 1) := by decide +kernel
theorem dX6_promised_37 : decode cX6_promised 37 = .ok (.invokevirtual 45, 3) := by decide +kernel
theorem dX6_promised_40 : decode cX6_promised 40 = .ok (.goto 11, 3) := by decide +kernel
theorem dX6_promised_51 : decode cX6_promised 51 = .ok (.ireturn, 1) := by decide +kernel
theorem dX6_promised_22 : decode cX6_promised 22 = .ok (.iconst 1, 1) := by decide +kernel
theorem dX6_promised_23 : decode cX6_promised 23 = .ok (.goto 4, 3) := by decide +kernel
theorem dX6_forgetsAll_0 : decode cX6_forgetsAll 0 = .ok (.iconst 0, 1) := by decide +kernel
theorem dX6_forgetsAll_1 : decode cX6_forgetsAll 1 = .ok (.istore_n 2, 1) := by decide +kernel
theorem dX6_forgetsAll_2 : decode cX6_forgetsAll 2 = .ok (.iconst 0, 1) := by decide +kernel
theorem dX6_forgetsAll_3 : decode cX6_forgetsAll 3 = .ok (.istore_n 3, 1) := by decide +kernel
theorem dX6_forgetsAll_4 : decode cX6_forgetsAll 4 = .ok (.iload_n 3, 1) := by decide +kernel
theorem dX6_forgetsAll_5 : decode cX6_forgetsAll 5 = .ok (.iconst 2, 1) := by decide +kernel
theorem dX6_forgetsAll_6 : decode cX6_forgetsAll 6 = .ok (.if_icmp .ge 70, 3) := by decide +kernel
theorem dX6_forgetsAll_9 : decode cX6_forgetsAll 9 = .ok (.iconst 0, 1) := by decide +kernel
theorem dX6_forgetsAll_10 : decode cX6_forgetsAll 10 = .ok (.istore 4, 2) := by decide +kernel
theorem dX6_forgetsAll_12 : decode cX6_forgetsAll 12 = .ok (.iload 4, 2) := by decide +kernel
theorem dX6_forgetsAll_14 : decode cX6_forgetsAll 14 = .ok (.bipush 24, 2) := by decide +kernel
theorem dX6_forgetsAll_16 : decode cX6_forgetsAll 16 = .ok (.if_icmp .ge 54, 3) := by decide +kernel
theorem dX6_forgetsAll_19 : decode cX6_forgetsAll 19 = .ok (.aload_n 0, 1) := by decide +kernel
theorem dX6_forgetsAll_20 : decode cX6_forgetsAll 20 = .ok (.getfield 29, 3) := by decide +kernel
theorem dX6_forgetsAll_23 : decode cX6_forgetsAll 23 = .ok (.iload_n 3, 1) := by decide +kernel
theorem dX6_forgetsAll_24 : decode cX6_forgetsAll 24 = .ok (.aaload, 1) := by decide +kernel
theorem dX6_forgetsAll_25 : decode cX6_forgetsAll 25 = .ok (.iload 4, 2) := by decide +kernel
theorem dX6_forgetsAll_27 : decode cX6_forgetsAll 27 = .ok (.aaload, 1) := by decide +kernel
theorem dX6_forgetsAll_28 : decode cX6_forgetsAll 28 = .ok (.ifnull 36, 3) := by decide +kernel
theorem dX6_forgetsAll_64 : decode cX6_forgetsAll 64 = .ok (.iinc 4 1, 3) := by decide +kernel
theorem dX6_forgetsAll_67 : decode cX6_forgetsAll 67 = .ok (.goto (-55), 3) := by decide +kernel
theorem dX6_forgetsAll_70 : decode cX6_forgetsAll 70 = .ok (.iinc 3 1, 3) := by decide +kernel
theorem dX6_forgetsAll_73 : decode cX6_forgetsAll 73 = .ok (.goto (-69), 3) := by decide +kernel
theorem dX6_forgetsAll_76 : decode cX6_forgetsAll 76 = .ok (.iload_n 2, 1) := by decide +kernel
theorem dX6_forgetsAll_77 : decode cX6_forgetsAll 77 = .ok (.ireturn, 1) := by decide +kernel
theorem dX6_fire_0 : decode cX6_fire 0 = .ok (.aload_n 0, 1) := by decide +kernel
theorem dX6_fire_1 : decode cX6_fire 1 = .ok (.iload_n 1, 1) := by decide +kernel
set_option maxRecDepth 20000 in
theorem ggX6_fire_X6_isFloor : GoodIn wsX6_fire wsX6_isFloor := goodIn_r _ [8, 9, 10, 11, 7, 12, 60, 61, 62, 63, 64, 65, 66, 67, 68, 69, 70, 71] (by decide +kernel) (by decide +kernel)
set_option maxRecDepth 20000 in
theorem gX6_fire_X6_isFloor : GoodIn wsX6_fire (wsV RX6 56 RX6 yX6_isFloor wsX6_isFloor) := goodIn_app (goodIn_of _ (by decide +kernel)) ggX6_fire_X6_isFloor
theorem dX6_fire_2 : decode cX6_fire 2 = .ok (.invokevirtual 56, 3) := by decide +kernel
theorem dX6_fire_5 : decode cX6_fire 5 = .ok (.ifCond .ne 9, 3) := by decide +kernel
theorem dX6_fire_8 : decode cX6_fire 8 = .ok (.aload_n 0, 1) := by decide +kernel
theorem dX6_fire_9 : decode cX6_fire 9 = .ok (.iconst 1, 1) := by decide +kernel
set_option maxRecDepth 20000 in
theorem ggX6_fire_X6_fails : GoodIn wsX6_fire wsX6_fails := goodIn_r _ [16, 17, 60, 61, 62, 63, 64, 65, 66, 67, 68, 69, 70, 71] (by decide +kernel) (by decide +kernel)
set_option maxRecDepth 20000 in
theorem gX6_fire_X6_fails : GoodIn wsX6_fire (wsV RX6 45 RX6 yX6_fails wsX6_fails) := goodIn_app (goodIn_of _ (by decide +kernel)) ggX6_fire_X6_fails
theorem dX6_fire_10 : decode cX6_fire 10 = .ok (.invokevirtual 45, 3) := by decide +kernel
theorem dX6_fire_13 : decode cX6_fire 13 = .ok (.ireturn, 1) := by decide +kernel
theorem dX6_fire_14 : decode cX6_fire 14 = .ok (.aload_n 0, 1) := by decide +kernel
theorem dX6_fire_15 : decode cX6_fire 15 = .ok (.iload_n 1, 1) := by decide +kernel
theorem dX6_fire_16 : decode cX6_fire 16 = .ok (.putfield 32, 3) := by decide +kernel
theorem dX6_fire_19 : decode cX6_fire 19 = .ok (.aload_n 0, 1) := by decide +kernel
theorem dX6_fire_20 : decode cX6_fire 20 = .ok (.getfield 20, 3) := by decide +kernel
set_option maxRecDepth 20000 in
theorem ggX6_fire_Jx4a65c_iterator_32c93 : GoodIn wsX6_fire wsJx4a65c_iterator_32c93 := goodIn_r _ [22, 23, 24, 25, 26, 27, 28, 29, 30, 31, 32, 33, 34, 35, 36, 86, 87, 88, 89, 90, 91, 92] (by decide +kernel) (by decide +kernel)
set_option maxRecDepth 20000 in
theorem gX6_fire_Jx4a65c_iterator_32c93 : GoodIn wsX6_fire (wsV RX6 60 RJx4a65c yJx4a65c_iterator_32c93 wsJx4a65c_iterator_32c93) := goodIn_app (goodIn_of _ (by decide +kernel)) ggX6_fire_Jx4a65c_iterator_32c93
theorem dX6_fire_23 : decode cX6_fire 23 = .ok (.invokevirtual 60, 3) := by decide +kernel
theorem dX6_fire_26 : decode cX6_fire 26 = .ok (.astore_n 2, 1) := by decide +kernel
theorem dX6_fire_27 : decode cX6_fire 27 = .ok (.aload_n 2, 1) := by decide +kernel
set_option maxRecDepth 20000 in
theorem ggX6_fire_Jx35411_hasNext_aae02 : GoodIn wsX6_fire wsJx35411_hasNext_aae02 := goodIn_r _ [40, 41, 29, 86, 87, 88, 89, 90, 91, 92] (by decide +kernel) (by decide +kernel)
set_option maxRecDepth 20000 in
theorem gX6_fire_Jx35411_hasNext_aae02_f64Jx35411 : GoodIn wsX6_fire (va_wsF RX6 64 RJx35411 ⟨"java/util/Iterator", "hasNext", "()Z"⟩ yJx35411_hasNext_aae02 wsJx35411_hasNext_aae02) := goodIn_app (goodIn_of _ (by decide +kernel)) ggX6_fire_Jx35411_hasNext_aae02
theorem dX6_fire_28 : decode cX6_fire 28 = .ok (.invokeinterface 64 1, 5) := by decide +kernel
theorem dX6_fire_33 : decode cX6_fire 33 = .ok (.ifCond .eq 21, 3) := by decide +kernel
theorem dX6_fire_54 : decode cX6_fire 54 = .ok (.aload_n 0, 1) := by decide +kernel
theorem dX6_fire_55 : decode cX6_fire 55 = .ok (.aload_n 0, 1) := by decide +kernel
theorem dX6_fire_56 : decode cX6_fire 56 = .ok (.aconst_null, 1) := by decide +kernel
set_option maxRecDepth 20000 in
theorem ggX6_fire_X6_forgetsAll : GoodIn wsX6_fire wsX6_forgetsAll := goodIn_r _ [54, 55, 60, 61, 62, 63, 64, 65, 66, 67, 68, 69, 70, 71] (by decide +kernel) (by decide +kernel)
set_option maxRecDepth 20000 in
theorem gX6_fire_X6_forgetsAll : GoodIn wsX6_fire (wsV RX6 274 RX6 yX6_forgetsAll wsX6_forgetsAll) := goodIn_app (goodIn_of _ (by decide +kernel)) ggX6_fire_X6_forgetsAll
theorem dX6_fire_57 : decode cX6_fire 57 = .ok (.invokevirtual 274, 3) := by decide +kernel
set_option maxRecDepth 20000 in
theorem ggX6_fire_X6_tells : GoodIn wsX6_fire wsX6_tells := goodIn_r _ [59, 17, 60, 61, 62, 63, 64, 65, 66, 67, 68, 69, 70, 71] (by decide +kernel) (by decide +kernel)
set_option maxRecDepth 20000 in
theorem gX6_fire_X6_tells : GoodIn wsX6_fire (wsV RX6 53 RX6 yX6_tells wsX6_tells) := goodIn_app (goodIn_of _ (by decide +kernel)) ggX6_fire_X6_tells
theorem dX6_fire_60 : decode cX6_fire 60 = .ok (.invokevirtual 53, 3) := by decide +kernel
theorem dX6_fire_63 : decode cX6_fire 63 = .ok (.ireturn, 1) := by decide +kernel
theorem dX6_clear_0 : decode cX6_clear 0 = .ok (.aload_n 0, 1) := by decide +kernel
theorem dX6_clear_1 : decode cX6_clear 1 = .ok (.iconst 0, 1) := by decide +kernel
theorem dX6_clear_2 : decode cX6_clear 2 = .ok (.putfield 38, 3) := by decide +kernel
theorem dX6_clear_5 : decode cX6_clear 5 = .ok (.aload_n 0, 1) := by decide +kernel
theorem dX6_clear_6 : decode cX6_clear 6 = .ok (.getfield 32, 3) := by decide +kernel
theorem dX6_clear_9 : decode cX6_clear 9 = .ok (.iconst (-1), 1) := by decide +kernel
theorem dX6_clear_10 : decode cX6_clear 10 = .ok (.if_icmp .eq 7, 3) := by decide +kernel
theorem dX6_clear_17 : decode cX6_clear 17 = .ok (.iconst 0, 1) := by decide +kernel
theorem dX6_clear_18 : decode cX6_clear 18 = .ok (.istore_n 1, 1) := by decide +kernel
theorem dX6_clear_19 : decode cX6_clear 19 = .ok (.aload_n 0, 1) := by decide +kernel
theorem dX6_clear_20 : decode cX6_clear 20 = .ok (.iconst (-1), 1) := by decide +kernel
theorem dX6_clear_21 : decode cX6_clear 21 = .ok (.putfield 32, 3) := by decide +kernel
theorem dX6_clear_24 : decode cX6_clear 24 = .ok (.aload_n 0, 1) := by decide +kernel
theorem dX6_clear_25 : decode cX6_clear 25 = .ok (.getfield 20, 3) := by decide +kernel
set_option maxRecDepth 20000 in
theorem ggX6_clear_Jx4a65c_iterator_32c93 : GoodIn wsX6_clear wsJx4a65c_iterator_32c93 := goodIn_r _ [9, 10, 11, 12, 13, 14, 15, 16, 17, 18, 19, 20, 21, 22, 23, 64, 65, 66, 67, 68, 69, 70] (by decide +kernel) (by decide +kernel)
set_option maxRecDepth 20000 in
theorem gX6_clear_Jx4a65c_iterator_32c93 : GoodIn wsX6_clear (wsV RX6 60 RJx4a65c yJx4a65c_iterator_32c93 wsJx4a65c_iterator_32c93) := goodIn_app (goodIn_of _ (by decide +kernel)) ggX6_clear_Jx4a65c_iterator_32c93
theorem dX6_clear_28 : decode cX6_clear 28 = .ok (.invokevirtual 60, 3) := by decide +kernel
theorem dX6_clear_31 : decode cX6_clear 31 = .ok (.astore_n 2, 1) := by decide +kernel
theorem dX6_clear_32 : decode cX6_clear 32 = .ok (.aload_n 2, 1) := by decide +kernel
set_option maxRecDepth 20000 in
theorem ggX6_clear_Jx35411_hasNext_aae02 : GoodIn wsX6_clear wsJx35411_hasNext_aae02 := goodIn_r _ [27, 28, 16, 64, 65, 66, 67, 68, 69, 70] (by decide +kernel) (by decide +kernel)
set_option maxRecDepth 20000 in
theorem gX6_clear_Jx35411_hasNext_aae02_f64Jx35411 : GoodIn wsX6_clear (va_wsF RX6 64 RJx35411 ⟨"java/util/Iterator", "hasNext", "()Z"⟩ yJx35411_hasNext_aae02 wsJx35411_hasNext_aae02) := goodIn_app (goodIn_of _ (by decide +kernel)) ggX6_clear_Jx35411_hasNext_aae02
theorem dX6_clear_33 : decode cX6_clear 33 = .ok (.invokeinterface 64 1, 5) := by decide +kernel
theorem dX6_clear_38 : decode cX6_clear 38 = .ok (.ifCond .eq 32, 3) := by decide +kernel
theorem dX6_clear_70 : decode cX6_clear 70 = .ok (.iload_n 1, 1) := by decide +kernel
theorem dX6_clear_71 : decode cX6_clear 71 = .ok (.ireturn, 1) := by decide +kernel
theorem dX6_quake_0 : decode cX6_quake 0 = .ok (.iload_n 1, 1) := by decide +kernel
theorem dX6_quake_1 : decode cX6_quake 1 = .ok (.iconst 0, 1) := by decide +kernel
theorem dX6_quake_2 : decode cX6_quake 2 = .ok (.bipush 99, 2) := by decide +kernel
set_option maxRecDepth 20000 in
theorem ggX6_quake_X6_in : GoodIn wsX6_quake wsX6_in := goodIn_r _ [7] (by decide +kernel) (by decide +kernel)
set_option maxRecDepth 20000 in
theorem gX6_quake_X6_in : GoodIn wsX6_quake (va_wsS RX6 41 yX6_in wsX6_in) := goodIn_app (goodIn_of _ (by decide +kernel)) ggX6_quake_X6_in
theorem dX6_quake_4 : decode cX6_quake 4 = .ok (.invokestatic 41, 3) := by decide +kernel
theorem dX6_quake_7 : decode cX6_quake 7 = .ok (.ifCond .ne 9, 3) := by decide +kernel
theorem dX6_quake_10 : decode cX6_quake 10 = .ok (.aload_n 0, 1) := by decide +kernel
theorem dX6_quake_11 : decode cX6_quake 11 = .ok (.iconst 1, 1) := by decide +kernel
set_option maxRecDepth 20000 in
theorem ggX6_quake_X6_fails : GoodIn wsX6_quake wsX6_fails := goodIn_r _ [11, 12, 17, 18, 19, 20, 21, 22, 23, 24, 25, 26, 27, 28] (by decide +kernel) (by decide +kernel)
set_option maxRecDepth 20000 in
theorem gX6_quake_X6_fails : GoodIn wsX6_quake (wsV RX6 45 RX6 yX6_fails wsX6_fails) := goodIn_app (goodIn_of _ (by decide +kernel)) ggX6_quake_X6_fails
theorem dX6_quake_12 : decode cX6_quake 12 = .ok (.invokevirtual 45, 3) := by decide +kernel
theorem dX6_quake_15 : decode cX6_quake 15 = .ok (.ireturn, 1) := by decide +kernel
theorem dX6_quake_16 : decode cX6_quake 16 = .ok (.aload_n 0, 1) := by decide +kernel
theorem dX6_quake_17 : decode cX6_quake 17 = .ok (.aload_n 0, 1) := by decide +kernel
theorem dX6_quake_18 : decode cX6_quake 18 = .ok (.getfield 179, 3) := by decide +kernel
theorem dX6_quake_21 : decode cX6_quake 21 = .ok (.iconst 5, 1) := by decide +kernel
theorem dX6_quake_22 : decode cX6_quake 22 = .ok (.iadd, 1) := by decide +kernel
theorem dX6_quake_23 : decode cX6_quake 23 = .ok (.putfield 190, 3) := by decide +kernel
theorem dX6_quake_26 : decode cX6_quake 26 = .ok (.aload_n 0, 1) := by decide +kernel
theorem dX6_quake_27 : decode cX6_quake 27 = .ok (.aload_n 0, 1) := by decide +kernel
theorem dX6_quake_28 : decode cX6_quake 28 = .ok (.getfield 190, 3) := by decide +kernel
theorem dX6_quake_31 : decode cX6_quake 31 = .ok (.iload_n 1, 1) := by decide +kernel
theorem dX6_quake_32 : decode cX6_quake 32 = .ok (.iadd, 1) := by decide +kernel
theorem dX6_quake_33 : decode cX6_quake 33 = .ok (.putfield 210, 3) := by decide +kernel
theorem dX6_quake_36 : decode cX6_quake 36 = .ok (.aload_n 0, 1) := by decide +kernel
theorem dX6_quake_37 : decode cX6_quake 37 = .ok (.aload_n 0, 1) := by decide +kernel
theorem dX6_quake_38 : decode cX6_quake 38 = .ok (.getfield 210, 3) := by decide +kernel
set_option maxRecDepth 20000 in
theorem ggX6_quake_X6_tells : GoodIn wsX6_quake wsX6_tells := goodIn_r _ [16, 12, 17, 18, 19, 20, 21, 22, 23, 24, 25, 26, 27, 28] (by decide +kernel) (by decide +kernel)
set_option maxRecDepth 20000 in
theorem gX6_quake_X6_tells : GoodIn wsX6_quake (wsV RX6 53 RX6 yX6_tells wsX6_tells) := goodIn_app (goodIn_of _ (by decide +kernel)) ggX6_quake_X6_tells
theorem dX6_quake_41 : decode cX6_quake 41 = .ok (.invokevirtual 53, 3) := by decide +kernel
theorem dX6_quake_44 : decode cX6_quake 44 = .ok (.ireturn, 1) := by decide +kernel
theorem dX6_energy_0 : decode cX6_energy 0 = .ok (.aload_n 0, 1) := by decide +kernel
theorem dX6_energy_1 : decode cX6_energy 1 = .ok (.iconst 0, 1) := by decide +kernel
theorem dX6_energy_2 : decode cX6_energy 2 = .ok (.putfield 38, 3) := by decide +kernel
theorem dX6_energy_5 : decode cX6_energy 5 = .ok (.aload_n 0, 1) := by decide +kernel
theorem dX6_energy_6 : decode cX6_energy 6 = .ok (.getfield 270, 3) := by decide +kernel
theorem dX6_energy_9 : decode cX6_energy 9 = .ok (.lreturn, 1) := by decide +kernel
theorem dX6_entries_0 : decode cX6_entries 0 = .ok (.aload_n 0, 1) := by decide +kernel
theorem dX6_entries_1 : decode cX6_entries 1 = .ok (.aload_n 0, 1) := by decide +kernel
theorem dX6_entries_2 : decode cX6_entries 2 = .ok (.getfield 35, 3) := by decide +kernel
set_option maxRecDepth 20000 in
theorem ggX6_entries_Jx4a65c_size_8abf5 : GoodIn wsX6_entries wsJx4a65c_size_8abf5 := goodIn_r _ [6, 7, 26, 27, 28] (by decide +kernel) (by decide +kernel)
set_option maxRecDepth 20000 in
theorem gX6_entries_Jx4a65c_size_8abf5 : GoodIn wsX6_entries (wsV RX6 94 RJx4a65c yJx4a65c_size_8abf5 wsJx4a65c_size_8abf5) := goodIn_app (goodIn_of _ (by decide +kernel)) ggX6_entries_Jx4a65c_size_8abf5
theorem dX6_entries_5 : decode cX6_entries 5 = .ok (.invokevirtual 94, 3) := by decide +kernel
set_option maxRecDepth 20000 in
theorem ggX6_entries_X6_tells : GoodIn wsX6_entries wsX6_tells := goodIn_r _ [12, 13, 14, 15, 16, 17, 18, 19, 20, 21, 22, 23, 24, 25] (by decide +kernel) (by decide +kernel)
set_option maxRecDepth 20000 in
theorem gX6_entries_X6_tells : GoodIn wsX6_entries (wsV RX6 53 RX6 yX6_tells wsX6_tells) := goodIn_app (goodIn_of _ (by decide +kernel)) ggX6_entries_X6_tells
theorem dX6_entries_8 : decode cX6_entries 8 = .ok (.invokevirtual 53, 3) := by decide +kernel
theorem dX6_entries_11 : decode cX6_entries 11 = .ok (.ireturn, 1) := by decide +kernel
theorem dX6_entryAt_0 : decode cX6_entryAt 0 = .ok (.aload_n 0, 1) := by decide +kernel
theorem dX6_entryAt_1 : decode cX6_entryAt 1 = .ok (.aload_n 0, 1) := by decide +kernel
theorem dX6_entryAt_2 : decode cX6_entryAt 2 = .ok (.iload_n 1, 1) := by decide +kernel
set_option maxRecDepth 20000 in
theorem ggX6_entryAt_X6_isEntry : GoodIn wsX6_entryAt wsX6_isEntry := goodIn_r _ [8, 2, 9, 10, 11, 12, 13, 14, 15, 16, 7, 17, 35, 36, 37, 38, 39, 40, 41, 42, 43, 44, 45, 46, 47, 48, 49] (by decide +kernel) (by decide +kernel)
set_option maxRecDepth 20000 in
theorem gX6_entryAt_X6_isEntry : GoodIn wsX6_entryAt (wsV RX6 282 RX6 yX6_isEntry wsX6_isEntry) := goodIn_app (goodIn_of _ (by decide +kernel)) ggX6_entryAt_X6_isEntry
theorem dX6_entryAt_3 : decode cX6_entryAt 3 = .ok (.invokevirtual 282, 3) := by decide +kernel
theorem dX6_entryAt_6 : decode cX6_entryAt 6 = .ok (.ifCond .eq 7, 3) := by decide +kernel
theorem dX6_entryAt_13 : decode cX6_entryAt 13 = .ok (.iconst 1, 1) := by decide +kernel
theorem dX6_entryAt_14 : decode cX6_entryAt 14 = .ok (.putfield 38, 3) := by decide +kernel
theorem dX6_entryAt_17 : decode cX6_entryAt 17 = .ok (.aload_n 0, 1) := by decide +kernel
theorem dX6_entryAt_18 : decode cX6_entryAt 18 = .ok (.getfield 38, 3) := by decide +kernel
theorem dX6_entryAt_21 : decode cX6_entryAt 21 = .ok (.ifCond .le 8, 3) := by decide +kernel
theorem dX6_entryAt_24 : decode cX6_entryAt 24 = .ok (.bipush 32, 2) := by decide +kernel
theorem dX6_entryAt_26 : decode cX6_entryAt 26 = .ok (.goto 17, 3) := by decide +kernel
theorem dX6_entryAt_43 : decode cX6_entryAt 43 = .ok (.ireturn, 1) := by decide +kernel
theorem dX6_entryOf_0 : decode cX6_entryOf 0 = .ok (.aload_n 0, 1) := by decide +kernel
theorem dX6_entryOf_1 : decode cX6_entryOf 1 = .ok (.iload_n 1, 1) := by decide +kernel
set_option maxRecDepth 20000 in
theorem ggX6_entryOf_X6_isEntry : GoodIn wsX6_entryOf wsX6_isEntry := goodIn_r _ [7, 1, 8, 9, 10, 11, 12, 13, 14, 15, 6, 16, 43, 44, 45, 46, 47, 48, 49, 50, 51, 52, 53, 54, 55, 56, 57] (by decide +kernel) (by decide +kernel)
set_option maxRecDepth 20000 in
theorem gX6_entryOf_X6_isEntry : GoodIn wsX6_entryOf (wsV RX6 282 RX6 yX6_isEntry wsX6_isEntry) := goodIn_app (goodIn_of _ (by decide +kernel)) ggX6_entryOf_X6_isEntry
theorem dX6_entryOf_2 : decode cX6_entryOf 2 = .ok (.invokevirtual 282, 3) := by decide +kernel
theorem dX6_entryOf_5 : decode cX6_entryOf 5 = .ok (.ifCond .ne 9, 3) := by decide +kernel
theorem dX6_entryOf_8 : decode cX6_entryOf 8 = .ok (.aload_n 0, 1) := by decide +kernel
theorem dX6_entryOf_9 : decode cX6_entryOf 9 = .ok (.iconst 1, 1) := by decide +kernel
set_option maxRecDepth 20000 in
theorem ggX6_entryOf_X6_fails : GoodIn wsX6_entryOf wsX6_fails := goodIn_r _ [20, 21, 43, 44, 45, 46, 47, 48, 49, 50, 51, 52, 53, 54] (by decide +kernel) (by decide +kernel)
set_option maxRecDepth 20000 in
theorem gX6_entryOf_X6_fails : GoodIn wsX6_entryOf (wsV RX6 45 RX6 yX6_fails wsX6_fails) := goodIn_app (goodIn_of _ (by decide +kernel)) ggX6_entryOf_X6_fails
theorem dX6_entryOf_10 : decode cX6_entryOf 10 = .ok (.invokevirtual 45, 3) := by decide +kernel
theorem dX6_entryOf_13 : decode cX6_entryOf 13 = .ok (.ireturn, 1) := by decide +kernel
theorem dX6_longest_0 : decode cX6_longest 0 = .ok (.iconst 0, 1) := by decide +kernel
theorem dX6_longest_1 : decode cX6_longest 1 = .ok (.istore_n 1, 1) := by decide +kernel
theorem dX6_longest_2 : decode cX6_longest 2 = .ok (.aload_n 0, 1) := by decide +kernel
theorem dX6_longest_3 : decode cX6_longest 3 = .ok (.getfield 24, 3) := by decide +kernel
set_option maxRecDepth 20000 in
theorem ggX6_longest_Jx4a65c_iterator_32c93 : GoodIn wsX6_longest wsJx4a65c_iterator_32c93 := goodIn_r _ [11, 12, 13, 14, 15, 16, 17, 18, 19, 20, 21, 22, 23, 24, 25, 66, 67, 68, 69, 70, 71, 72] (by decide +kernel) (by decide +kernel)
set_option maxRecDepth 20000 in
theorem gX6_longest_Jx4a65c_iterator_32c93 : GoodIn wsX6_longest (wsV RX6 60 RJx4a65c yJx4a65c_iterator_32c93 wsJx4a65c_iterator_32c93) := goodIn_app (goodIn_of _ (by decide +kernel)) ggX6_longest_Jx4a65c_iterator_32c93
theorem dX6_longest_6 : decode cX6_longest 6 = .ok (.invokevirtual 60, 3) := by decide +kernel
theorem dX6_longest_9 : decode cX6_longest 9 = .ok (.astore_n 2, 1) := by decide +kernel
theorem dX6_longest_10 : decode cX6_longest 10 = .ok (.aload_n 2, 1) := by decide +kernel
set_option maxRecDepth 20000 in
theorem ggX6_longest_Jx35411_hasNext_aae02 : GoodIn wsX6_longest wsJx35411_hasNext_aae02 := goodIn_r _ [29, 30, 18, 66, 67, 68, 69, 70, 71, 72] (by decide +kernel) (by decide +kernel)
set_option maxRecDepth 20000 in
theorem gX6_longest_Jx35411_hasNext_aae02_f64Jx35411 : GoodIn wsX6_longest (va_wsF RX6 64 RJx35411 ⟨"java/util/Iterator", "hasNext", "()Z"⟩ yJx35411_hasNext_aae02 wsJx35411_hasNext_aae02) := goodIn_app (goodIn_of _ (by decide +kernel)) ggX6_longest_Jx35411_hasNext_aae02
theorem dX6_longest_11 : decode cX6_longest 11 = .ok (.invokeinterface 64 1, 5) := by decide +kernel
theorem dX6_longest_16 : decode cX6_longest 16 = .ok (.ifCond .eq 25, 3) := by decide +kernel
theorem dX6_longest_41 : decode cX6_longest 41 = .ok (.aload_n 0, 1) := by decide +kernel
theorem dX6_longest_42 : decode cX6_longest 42 = .ok (.iload_n 1, 1) := by decide +kernel
set_option maxRecDepth 20000 in
theorem ggX6_longest_X6_tells : GoodIn wsX6_longest wsX6_tells := goodIn_r _ [44, 45, 46, 47, 48, 49, 50, 51, 52, 53, 54, 55, 56, 57] (by decide +kernel) (by decide +kernel)
set_option maxRecDepth 20000 in
theorem gX6_longest_X6_tells : GoodIn wsX6_longest (wsV RX6 53 RX6 yX6_tells wsX6_tells) := goodIn_app (goodIn_of _ (by decide +kernel)) ggX6_longest_X6_tells
theorem dX6_longest_43 : decode cX6_longest 43 = .ok (.invokevirtual 53, 3) := by decide +kernel
theorem dX6_longest_46 : decode cX6_longest 46 = .ok (.ireturn, 1) := by decide +kernel
theorem dX6_comeShare_0 : decode cX6_comeShare 0 = .ok (.aload_n 0, 1) := by decide +kernel
theorem dX6_comeShare_1 : decode cX6_comeShare 1 = .ok (.aload_n 0, 1) := by decide +kernel
theorem dX6_comeShare_2 : decode cX6_comeShare 2 = .ok (.getfield 24, 3) := by decide +kernel
set_option maxRecDepth 20000 in
theorem ggX6_comeShare_Jx4a65c_isEmpty_aae02 : GoodIn wsX6_comeShare wsJx4a65c_isEmpty_aae02 := goodIn_r _ [7, 8, 160, 161, 162] (by decide +kernel) (by decide +kernel)
set_option maxRecDepth 20000 in
theorem gX6_comeShare_Jx4a65c_isEmpty_aae02 : GoodIn wsX6_comeShare (wsV RX6 49 RJx4a65c yJx4a65c_isEmpty_aae02 wsJx4a65c_isEmpty_aae02) := goodIn_app (goodIn_of _ (by decide +kernel)) ggX6_comeShare_Jx4a65c_isEmpty_aae02
theorem dX6_comeShare_5 : decode cX6_comeShare 5 = .ok (.invokevirtual 49, 3) := by decide +kernel
theorem dX6_comeShare_8 : decode cX6_comeShare 8 = .ok (.ifCond .eq 7, 3) := by decide +kernel
theorem dX6_comeShare_11 : decode cX6_comeShare 11 = .ok (.iconst 1, 1) := by decide +kernel
theorem dX6_comeShare_12 : decode cX6_comeShare 12 = .ok (.goto 4, 3) := by decide +kernel
theorem dX6_comeShare_16 : decode cX6_comeShare 16 = .ok (.putfield 38, 3) := by decide +kernel
theorem dX6_comeShare_19 : decode cX6_comeShare 19 = .ok (.aload_n 0, 1) := by decide +kernel
theorem dX6_comeShare_20 : decode cX6_comeShare 20 = .ok (.getfield 38, 3) := by decide +kernel
theorem dX6_comeShare_23 : decode cX6_comeShare 23 = .ok (.ifCond .le 7, 3) := by decide +kernel
theorem dX6_comeShare_26 : decode cX6_comeShare 26 = .ok (.fconst 0, 1) := by decide +kernel
theorem dX6_comeShare_27 : decode cX6_comeShare 27 = .ok (.goto 19, 3) := by decide +kernel
theorem dX6_comeShare_46 : decode cX6_comeShare 46 = .ok (.freturn, 1) := by decide +kernel
theorem dX6_meanWait_0 : decode cX6_meanWait 0 = .ok (.aload_n 0, 1) := by decide +kernel
theorem dX6_meanWait_1 : decode cX6_meanWait 1 = .ok (.aload_n 0, 1) := by decide +kernel
theorem dX6_meanWait_2 : decode cX6_meanWait 2 = .ok (.getfield 24, 3) := by decide +kernel
set_option maxRecDepth 20000 in
theorem ggX6_meanWait_Jx4a65c_isEmpty_aae02 : GoodIn wsX6_meanWait wsJx4a65c_isEmpty_aae02 := goodIn_r _ [8, 9, 66, 67, 68] (by decide +kernel) (by decide +kernel)
set_option maxRecDepth 20000 in
theorem gX6_meanWait_Jx4a65c_isEmpty_aae02 : GoodIn wsX6_meanWait (wsV RX6 49 RJx4a65c yJx4a65c_isEmpty_aae02 wsJx4a65c_isEmpty_aae02) := goodIn_app (goodIn_of _ (by decide +kernel)) ggX6_meanWait_Jx4a65c_isEmpty_aae02
theorem dX6_meanWait_5 : decode cX6_meanWait 5 = .ok (.invokevirtual 49, 3) := by decide +kernel
theorem dX6_meanWait_8 : decode cX6_meanWait 8 = .ok (.ifCond .eq 7, 3) := by decide +kernel
theorem dX6_meanWait_11 : decode cX6_meanWait 11 = .ok (.iconst 1, 1) := by decide +kernel
theorem dX6_meanWait_12 : decode cX6_meanWait 12 = .ok (.goto 4, 3) := by decide +kernel
theorem dX6_meanWait_16 : decode cX6_meanWait 16 = .ok (.putfield 38, 3) := by decide +kernel
theorem dX6_meanWait_19 : decode cX6_meanWait 19 = .ok (.iconst 0, 1) := by decide +kernel
theorem dX6_meanWait_20 : decode cX6_meanWait 20 = .ok (.istore_n 1, 1) := by decide +kernel
theorem dX6_meanWait_21 : decode cX6_meanWait 21 = .ok (.aload_n 0, 1) := by decide +kernel
theorem dX6_meanWait_22 : decode cX6_meanWait 22 = .ok (.getfield 24, 3) := by decide +kernel
set_option maxRecDepth 20000 in
theorem ggX6_meanWait_Jx4a65c_iterator_32c93 : GoodIn wsX6_meanWait wsJx4a65c_iterator_32c93 := goodIn_r _ [13, 14, 15, 16, 17, 18, 19, 20, 21, 22, 23, 24, 25, 26, 27, 69, 70, 71, 72, 66, 67, 68] (by decide +kernel) (by decide +kernel)
set_option maxRecDepth 20000 in
theorem gX6_meanWait_Jx4a65c_iterator_32c93 : GoodIn wsX6_meanWait (wsV RX6 60 RJx4a65c yJx4a65c_iterator_32c93 wsJx4a65c_iterator_32c93) := goodIn_app (goodIn_of _ (by decide +kernel)) ggX6_meanWait_Jx4a65c_iterator_32c93
theorem dX6_meanWait_25 : decode cX6_meanWait 25 = .ok (.invokevirtual 60, 3) := by decide +kernel
theorem dX6_meanWait_28 : decode cX6_meanWait 28 = .ok (.astore_n 2, 1) := by decide +kernel
theorem dX6_meanWait_29 : decode cX6_meanWait 29 = .ok (.aload_n 2, 1) := by decide +kernel
set_option maxRecDepth 20000 in
theorem ggX6_meanWait_Jx35411_hasNext_aae02 : GoodIn wsX6_meanWait wsJx35411_hasNext_aae02 := goodIn_r _ [31, 32, 20, 69, 70, 71, 72, 66, 67, 68] (by decide +kernel) (by decide +kernel)
set_option maxRecDepth 20000 in
theorem gX6_meanWait_Jx35411_hasNext_aae02_f64Jx35411 : GoodIn wsX6_meanWait (va_wsF RX6 64 RJx35411 ⟨"java/util/Iterator", "hasNext", "()Z"⟩ yJx35411_hasNext_aae02 wsJx35411_hasNext_aae02) := goodIn_app (goodIn_of _ (by decide +kernel)) ggX6_meanWait_Jx35411_hasNext_aae02
theorem dX6_meanWait_30 : decode cX6_meanWait 30 = .ok (.invokeinterface 64 1, 5) := by decide +kernel
theorem dX6_meanWait_35 : decode cX6_meanWait 35 = .ok (.ifCond .eq 23, 3) := by decide +kernel
theorem dX6_meanWait_58 : decode cX6_meanWait 58 = .ok (.aload_n 0, 1) := by decide +kernel
theorem dX6_meanWait_59 : decode cX6_meanWait 59 = .ok (.getfield 38, 3) := by decide +kernel
theorem dX6_meanWait_62 : decode cX6_meanWait 62 = .ok (.ifCond .le 7, 3) := by decide +kernel
theorem dX6_meanWait_65 : decode cX6_meanWait 65 = .ok (.dconst 0, 1) := by decide +kernel
theorem dX6_meanWait_66 : decode cX6_meanWait 66 = .ok (.goto 14, 3) := by decide +kernel
theorem dX6_meanWait_80 : decode cX6_meanWait 80 = .ok (.dreturn, 1) := by decide +kernel
theorem dX6_isTrue_0 : decode cX6_isTrue 0 = .ok (.aload_n 0, 1) := by decide +kernel
theorem dX6_isTrue_1 : decode cX6_isTrue 1 = .ok (.iconst 0, 1) := by decide +kernel
theorem dX6_isTrue_2 : decode cX6_isTrue 2 = .ok (.putfield 38, 3) := by decide +kernel
theorem dX6_isTrue_5 : decode cX6_isTrue 5 = .ok (.iconst 1, 1) := by decide +kernel
theorem dX6_isTrue_6 : decode cX6_isTrue 6 = .ok (.ireturn, 1) := by decide +kernel
set_option maxHeartbeats 4000000 in
set_option maxRecDepth 100000 in
theorem c_X6_promised (l : Launch) (hst : l.stackTraces = false) (em kw kb : Nat) (D : va_G) (mm : Nat) (p0 : Int32) (p1 : Int32) (c2 : Nat) (ps2 : Nat) (pr : Nat) (l2 : Nat) (cP : ClassId) (r0 : Nat) (cR : ClassId) (r1 : Nat) (sz : Nat) : Met l yX6_promised wsX6_promised ({ frames := 2, cells := 0, slots := 0, locals := 43 }) (va_Pc [.ref mm, .int p0, .int p1] (tw_Pre em kw kb D sz [(mm, .inr (10, [.int 0, .int 9, .int 0, .int 99, .ref c2, .ref ps2, .ref pr, .int 0, .int 0, .int ((-1)), .ref l2, .long 0])), (pr, .inl (cP, 2, .inr (.inr (.inr (.inr ((tw_two r0 r1))))))), (r0, .inl (cR, 24, .inr (.inr (.inr (.inr ((fun _ => none))))))), (r1, .inl (cR, 24, .inr (.inr (.inr (.inr ((fun _ => none)))))))] [(cP, .array (.object "TowerliftryModel$Car")), (cR, .object "TowerliftryModel$Car")])) (va_Qi (fun (r : Int32) (u : tw_U) => ((((p0 < 0) ∨ (¬ p0 < 0 ∧ 9 < p0))) ∧ r = 0 ∧ u = ([(mm, .inr (10, [.int 1, .int 9, .int 0, .int 99, .ref c2, .ref ps2, .ref pr, .int 0, .int 0, .int ((-1)), .ref l2, .long 0]))], [])) ∨ ((((¬ p0 < 0 ∧ ¬ 9 < p0) ∧ p1 = 0) ∨ ((¬ p0 < 0 ∧ ¬ 9 < p0) ∧ ¬ p1 = 0)) ∧ r = 0 ∧ u = ([(mm, .inr (10, [.int 2, .int 9, .int 0, .int 99, .ref c2, .ref ps2, .ref pr, .int 0, .int 0, .int ((-1)), .ref l2, .long 0]))], []))) (tw_B D (va_A [(mm, .inr (10, [.int 0, .int 9, .int 0, .int 99, .ref c2, .ref ps2, .ref pr, .int 0, .int 0, .int ((-1)), .ref l2, .long 0])), (pr, .inl (cP, 2, .inr (.inr (.inr (.inr ((tw_two r0 r1))))))), (r0, .inl (cR, 24, .inr (.inr (.inr (.inr ((fun _ => none))))))), (r1, .inl (cR, 24, .inr (.inr (.inr (.inr ((fun _ => none)))))))] sz)) (va_A [(mm, .inr (10, [.int 0, .int 9, .int 0, .int 99, .ref c2, .ref ps2, .ref pr, .int 0, .int 0, .int ((-1)), .ref l2, .long 0])), (pr, .inl (cP, 2, .inr (.inr (.inr (.inr ((tw_two r0 r1))))))), (r0, .inl (cR, 24, .inr (.inr (.inr (.inr ((fun _ => none))))))), (r1, .inl (cR, 24, .inr (.inr (.inr (.inr ((fun _ => none)))))))] sz)) 0 0 (va_A [(mm, .inr (10, [.int 0, .int 9, .int 0, .int 99, .ref c2, .ref ps2, .ref pr, .int 0, .int 0, .int ((-1)), .ref l2, .long 0])), (pr, .inl (cP, 2, .inr (.inr (.inr (.inr ((tw_two r0 r1))))))), (r0, .inl (cR, 24, .inr (.inr (.inr (.inr ((fun _ => none))))))), (r1, .inl (cR, 24, .inr (.inr (.inr (.inr ((fun _ => none)))))))] sz) := by
  refine Met.ofW (cc := cX6_promised) (maxL := 4) (ret := (some .int)) (by decide) rfl ?_
  intro p e s m args below meth c s₁ B hml hv
  obtain ⟨rfl, hsz, hP, hK, hD0, hF⟩ := hv
  have hx := B.exec
  have hb := B.bytes
  have hr := B.returns
  have hts := atoms_spec (ws := wsX6_promised) B.pre
  have hown : s.vm.findClass RX6 = some m.cls := findClass_of_methodNamed B.named
  have hlocks := B.notSynchronized
  have hiRX6 : ∀ w ∈ u_ws RX6 TX6 12, w ∈ wsX6_promised := by decide +kernel
  subst hsz
  have hD := hD0.self (sz := s.heap.size)
  generalize hAe : va_A [(mm, .inr (10, [.int 0, .int 9, .int 0, .int 99, .ref c2, .ref ps2, .ref pr, .int 0, .int 0, .int ((-1)), .ref l2, .long 0])), (pr, .inl (cP, 2, .inr (.inr (.inr (.inr ((tw_two r0 r1))))))), (r0, .inl (cR, 24, .inr (.inr (.inr (.inr ((fun _ => none))))))), (r1, .inl (cR, 24, .inr (.inr (.inr (.inr ((fun _ => none)))))))] s.heap.size = A at hD hF ⊢
  have hA : ∀ q : Nat, s.heap.size ≤ q → A q := fun q h => by rw [← hAe]; exact Or.inr h
  have hS : va_S A s.heap s.heap [] := va_S.rf
  have hP : va_P D vwCl [(mm, .inr (10, [.int 0, .int 9, .int 0, .int 99, .ref c2, .ref ps2, .ref pr, .int 0, .int 0, .int ((-1)), .ref l2, .long 0])), (pr, .inl (cP, 2, .inr (.inr (.inr (.inr ((tw_two r0 r1))))))), (r0, .inl (cR, 24, .inr (.inr (.inr (.inr ((fun _ => none))))))), (r1, .inl (cR, 24, .inr (.inr (.inr (.inr ((fun _ => none)))))))] s.heap := hP
  have hl := lv_entry ([.ref mm, .int p0, .int p1]) (n := 4) (Nat.le_of_ble_eq_true rfl)
  rw [lg_entry_eq]
  generalize (lg_sl ([.ref mm, .int p0, .int p1]) ++ List.replicate (4 - (lg_sl ([.ref mm, .int p0, .int p1])).length) Slot.unset).toArray = ls at hl ⊢
  have hl : lv_has ls 4 [(0, .ref mm), (1, .int p0), (2, .int p1)] := hl
  refine lv_aload_n hx hb dX6_promised_0 rfl (lv_at hl 0 rfl) ?_
  refine lv_iload_n hx hb dX6_promised_1 rfl (lv_at hl 1 rfl) ?_
  have hPc := hP.sub (ws' := [(mm, .inr (10, [.int 0, .int 9, .int 0, .int 99, .ref c2, .ref ps2, .ref pr, .int 0, .int 0, .int ((-1)), .ref l2, .long 0]))]) [0] rfl
  have hDc := hD.sub (ws' := [(mm, .inr (10, [.int 0, .int 9, .int 0, .int 99, .ref c2, .ref ps2, .ref pr, .int 0, .int 0, .int ((-1)), .ref l2, .long 0]))]) [0] (by decide) rfl
  have hKc := hK.sub (tys' := []) [] rfl
  have hFc := va_free (wc := [(mm, .inr (10, [.int 0, .int 9, .int 0, .int 99, .ref c2, .ref ps2, .ref pr, .int 0, .int 0, .int ((-1)), .ref l2, .long 0]))]) hD hS hA [0] rfl
  refine va_calli (va_runV (As := [.int p0]) (rest := []) ⟨hx, hb, hml, hown, hts⟩ (c_X6_isFloor l hst em kw kb D mm p0 c2 ps2 pr l2 _) (cwV 1 hts gX6_promised_X6_isFloor rfl rfl rfl (by decide +kernel) ⟨(Nat.le_of_ble_eq_true rfl), (Nat.le_of_ble_eq_true rfl)⟩) (tw_preV hF hS hFc hPc hKc hDc (va_recv hKc hPc (ci := 10) (q0 := 0) rfl rfl)) rfl rfl hl.1 rfl (lv_room (Nat.le_of_ble_eq_true rfl)) dX6_promised_2 ⟨(Nat.le_of_ble_eq_true rfl), (Nat.le_of_ble_eq_true rfl)⟩) hS (fun q _ h => hFc q h) hFc (fun r u t H locs ht hvm hw hB hz1 hk1 hS => ?_)
  rcases hw with hw | hw
  · obtain ⟨g_1, rfl, rfl⟩ := hw
    obtain ⟨hP, hD, hK⟩ := tw_join (wr := [(pr, .inl (cP, 2, .inr (.inr (.inr (.inr ((tw_two r0 r1))))))), (r0, .inl (cR, 24, .inr (.inr (.inr (.inr ((fun _ => none))))))), (r1, .inl (cR, 24, .inr (.inr (.inr (.inr ((fun _ => none)))))))]) hP hD hK [0] [1, 2, 3] rfl rfl (by decide) (by decide) hk1 hFc ht hvm hB
    have hP : va_P D vwCl [(pr, .inl (cP, 2, .inr (.inr (.inr (.inr ((tw_two r0 r1))))))), (r0, .inl (cR, 24, .inr (.inr (.inr (.inr ((fun _ => none))))))), (r1, .inl (cR, 24, .inr (.inr (.inr (.inr ((fun _ => none))))))), (mm, .inr (10, [.int 0, .int 9, .int 0, .int 99, .ref c2, .ref ps2, .ref pr, .int 0, .int 0, .int ((-1)), .ref l2, .long 0]))] _ := hP
    have hD : va_D A [(pr, .inl (cP, 2, .inr (.inr (.inr (.inr ((tw_two r0 r1))))))), (r0, .inl (cR, 24, .inr (.inr (.inr (.inr ((fun _ => none))))))), (r1, .inl (cR, 24, .inr (.inr (.inr (.inr ((fun _ => none))))))), (mm, .inr (10, [.int 0, .int 9, .int 0, .int 99, .ref c2, .ref ps2, .ref pr, .int 0, .int 0, .int ((-1)), .ref l2, .long 0]))] := hD
    have hK : va_K D vwCl [(cP, .array (.object "TowerliftryModel$Car")), (cR, .object "TowerliftryModel$Car")] s := hK
    refine W.widen (k := 0) (n := 0) (Nat.le_refl _) (Nat.le_refl _) ?_
    refine W.eq (g2 := F0 m 5 ls [.int 0]) rfl ?_
    refine lv_if_ne (tgt := 14) hx hb dX6_promised_5 (by decide) (fun c9 => absurd c9 (by decide)) (fun c9 => ?_)
    refine lv_aload_n hx hb dX6_promised_8 rfl (lv_at hl 0 rfl) ?_
    refine lv_iconst (v := 1) hx hb dX6_promised_9 (by decide) ?_
    have hPc := hP.sub (ws' := [(mm, .inr (10, [.int 0, .int 9, .int 0, .int 99, .ref c2, .ref ps2, .ref pr, .int 0, .int 0, .int ((-1)), .ref l2, .long 0]))]) [3] rfl
    have hDc := hD.sub (ws' := [(mm, .inr (10, [.int 0, .int 9, .int 0, .int 99, .ref c2, .ref ps2, .ref pr, .int 0, .int 0, .int ((-1)), .ref l2, .long 0]))]) [3] (by decide) rfl
    have hKc := hK.sub (tys' := []) [] rfl
    have hFc := va_free (wc := [(mm, .inr (10, [.int 0, .int 9, .int 0, .int 99, .ref c2, .ref ps2, .ref pr, .int 0, .int 0, .int ((-1)), .ref l2, .long 0]))]) hD hS hA [3] rfl
    refine va_calli (va_runV (As := [.int 1]) (rest := []) ⟨hx, hb, hml, hown, hts⟩ (c_X6_fails l hst em kw kb D mm 1 0 9 0 99 c2 ps2 pr 0 0 ((-1)) l2 0 _) (cwV 1 hts gX6_promised_X6_fails rfl rfl rfl (by decide +kernel) ⟨(Nat.le_of_ble_eq_true rfl), (Nat.le_of_ble_eq_true rfl)⟩) (tw_preV hF hS hFc hPc hKc hDc (va_recv hKc hPc (ci := 10) (q0 := 0) rfl rfl)) rfl rfl hl.1 rfl (lv_room (Nat.le_of_ble_eq_true rfl)) dX6_promised_10 ⟨(Nat.le_of_ble_eq_true rfl), (Nat.le_of_ble_eq_true rfl)⟩) hS (fun q _ h => hFc q h) hFc (fun r u t H locs ht hvm hw hB hz1 hk1 hS => ?_)
    obtain ⟨rfl, rfl⟩ := hw
    obtain ⟨hP, hD, hK⟩ := tw_join (wr := [(pr, .inl (cP, 2, .inr (.inr (.inr (.inr ((tw_two r0 r1))))))), (r0, .inl (cR, 24, .inr (.inr (.inr (.inr ((fun _ => none))))))), (r1, .inl (cR, 24, .inr (.inr (.inr (.inr ((fun _ => none)))))))]) hP hD hK [3] [0, 1, 2] rfl rfl (by decide) (by decide) hk1 hFc ht hvm hB
    have hP : va_P D vwCl [(pr, .inl (cP, 2, .inr (.inr (.inr (.inr ((tw_two r0 r1))))))), (r0, .inl (cR, 24, .inr (.inr (.inr (.inr ((fun _ => none))))))), (r1, .inl (cR, 24, .inr (.inr (.inr (.inr ((fun _ => none))))))), (mm, .inr (10, [.int 1, .int 9, .int 0, .int 99, .ref c2, .ref ps2, .ref pr, .int 0, .int 0, .int ((-1)), .ref l2, .long 0]))] _ := hP
    have hD : va_D A [(pr, .inl (cP, 2, .inr (.inr (.inr (.inr ((tw_two r0 r1))))))), (r0, .inl (cR, 24, .inr (.inr (.inr (.inr ((fun _ => none))))))), (r1, .inl (cR, 24, .inr (.inr (.inr (.inr ((fun _ => none))))))), (mm, .inr (10, [.int 1, .int 9, .int 0, .int 99, .ref c2, .ref ps2, .ref pr, .int 0, .int 0, .int ((-1)), .ref l2, .long 0]))] := hD
    have hK : va_K D vwCl [(cP, .array (.object "TowerliftryModel$Car")), (cR, .object "TowerliftryModel$Car")] s := hK
    refine W.widen (k := 0) (n := 0) (Nat.le_refl _) (Nat.le_refl _) ?_
    refine W.eq (g2 := F0 m 13 ls [.int 0]) rfl ?_
    refine W.widen (k := 0) (n := 0) (Nat.le_of_ble_eq_true rfl) (Nat.le_of_ble_eq_true rfl) ?_
    have hP9 := hP.sub (ws' := [(mm, .inr (10, [.int 1, .int 9, .int 0, .int 99, .ref c2, .ref ps2, .ref pr, .int 0, .int 0, .int ((-1)), .ref l2, .long 0]))]) [3] rfl
    have hD9 := hD.sub (ws' := [(mm, .inr (10, [.int 1, .int 9, .int 0, .int 99, .ref c2, .ref ps2, .ref pr, .int 0, .int 0, .int ((-1)), .ref l2, .long 0]))]) [3] (by decide) rfl
    have hK9 := hK.sub (tys' := []) [] rfl
    exact W.iret (v := 0) hx hb hr (fun t ht hW => ⟨⟨0, ([(mm, .inr (10, [.int 1, .int 9, .int 0, .int 99, .ref c2, .ref ps2, .ref pr, .int 0, .int 0, .int ((-1)), .ref l2, .long 0]))], []), rfl, (Or.inl ⟨g_1, rfl, rfl⟩), by rw [ht]; exact hP9, va_K.moved hW.alike hK9, hD9⟩, hS.F ht⟩) hS.2.2 dX6_promised_13
  · obtain ⟨g_2, rfl, rfl⟩ := hw
    obtain ⟨hP, hD, hK⟩ := tw_join (wr := [(pr, .inl (cP, 2, .inr (.inr (.inr (.inr ((tw_two r0 r1))))))), (r0, .inl (cR, 24, .inr (.inr (.inr (.inr ((fun _ => none))))))), (r1, .inl (cR, 24, .inr (.inr (.inr (.inr ((fun _ => none)))))))]) hP hD hK [0] [1, 2, 3] rfl rfl (by decide) (by decide) hk1 hFc ht hvm hB
    have hP : va_P D vwCl [(pr, .inl (cP, 2, .inr (.inr (.inr (.inr ((tw_two r0 r1))))))), (r0, .inl (cR, 24, .inr (.inr (.inr (.inr ((fun _ => none))))))), (r1, .inl (cR, 24, .inr (.inr (.inr (.inr ((fun _ => none))))))), (mm, .inr (10, [.int 0, .int 9, .int 0, .int 99, .ref c2, .ref ps2, .ref pr, .int 0, .int 0, .int ((-1)), .ref l2, .long 0]))] _ := hP
    have hD : va_D A [(pr, .inl (cP, 2, .inr (.inr (.inr (.inr ((tw_two r0 r1))))))), (r0, .inl (cR, 24, .inr (.inr (.inr (.inr ((fun _ => none))))))), (r1, .inl (cR, 24, .inr (.inr (.inr (.inr ((fun _ => none))))))), (mm, .inr (10, [.int 0, .int 9, .int 0, .int 99, .ref c2, .ref ps2, .ref pr, .int 0, .int 0, .int ((-1)), .ref l2, .long 0]))] := hD
    have hK : va_K D vwCl [(cP, .array (.object "TowerliftryModel$Car")), (cR, .object "TowerliftryModel$Car")] s := hK
    refine W.widen (k := 0) (n := 0) (Nat.le_refl _) (Nat.le_refl _) ?_
    refine W.eq (g2 := F0 m 5 ls [.int 1]) rfl ?_
    refine lv_if_ne (tgt := 14) hx hb dX6_promised_5 (by decide) (fun c9 => ?_) (fun c9 => absurd c9 (by decide))
    refine lv_aload_n hx hb dX6_promised_14 rfl (lv_at hl 0 rfl) ?_
    refine va_get (D := D) (ci := 10) (v := .ref pr) (C := RX6) (T := TX6) (N := 12) hx hb hts hiRX6 hown hK hP 3 rfl rfl 6 (by decide) (hts (.fieldLink RX6 29 "TowerliftryModel" "promises" "[[LTowerliftryModel$Car;") (by decide +kernel)) (fun _ h9 => h9) rfl dX6_promised_15 ?_
    refine lv_iload_n hx hb dX6_promised_18 rfl (lv_at hl 2 rfl) ?_
    refine lv_if_eq (tgt := 26) hx hb dX6_promised_19 (by decide) (fun c_3 => ?_) (fun c_3 => ?_)
    · refine lv_iconst (v := 0) hx hb dX6_promised_26 (by decide) ?_
      refine tw_aldA hx hb hK hP 0 0 rfl rfl (by unfold vp_in; decide) dX6_promised_27 ?_
      rw [tw_two0]
      refine W.eq (g2 := F0 m 28 ls [.ref r0]) rfl ?_
      refine lv_iload_n hx hb dX6_promised_28 rfl (lv_at hl 1 rfl) ?_
      refine va_aldq hx hb hK hP 1 1 rfl rfl (tw_in9 g_2 (by decide) (by decide)) dX6_promised_29 ?_
      refine W.eq (g2 := F0 m 30 ls [.null]) rfl ?_
      refine lv_astore_nN (lv' := [(3, .null), (0, .ref mm), (1, .int p0), (2, .int p1)]) hx hb dX6_promised_30 rfl hl (by decide) rfl (fun ls hl => ?_)
      refine lv_aload_nN hx hb dX6_promised_31 rfl (lv_at hl 0 rfl) ?_
      refine lv_ifnonnullN hx hb dX6_promised_32 ?_
      refine lv_aload_n hx hb dX6_promised_35 rfl (lv_at hl 1 rfl) ?_
      refine lv_iconst (v := 2) hx hb dX6_promised_36 (by decide) ?_
      have hPc := hP.sub (ws' := [(mm, .inr (10, [.int 0, .int 9, .int 0, .int 99, .ref c2, .ref ps2, .ref pr, .int 0, .int 0, .int ((-1)), .ref l2, .long 0]))]) [3] rfl
      have hDc := hD.sub (ws' := [(mm, .inr (10, [.int 0, .int 9, .int 0, .int 99, .ref c2, .ref ps2, .ref pr, .int 0, .int 0, .int ((-1)), .ref l2, .long 0]))]) [3] (by decide) rfl
      have hKc := hK.sub (tys' := []) [] rfl
      have hFc := va_free (wc := [(mm, .inr (10, [.int 0, .int 9, .int 0, .int 99, .ref c2, .ref ps2, .ref pr, .int 0, .int 0, .int ((-1)), .ref l2, .long 0]))]) hD hS hA [3] rfl
      refine va_calli (va_runV (As := [.int 2]) (rest := []) ⟨hx, hb, hml, hown, hts⟩ (c_X6_fails l hst em kw kb D mm 2 0 9 0 99 c2 ps2 pr 0 0 ((-1)) l2 0 _) (cwV 1 hts gX6_promised_X6_fails rfl rfl rfl (by decide +kernel) ⟨(Nat.le_of_ble_eq_true rfl), (Nat.le_of_ble_eq_true rfl)⟩) (tw_preV hF hS hFc hPc hKc hDc (va_recv hKc hPc (ci := 10) (q0 := 0) rfl rfl)) rfl rfl hl.1 rfl (lv_room (Nat.le_of_ble_eq_true rfl)) dX6_promised_37 ⟨(Nat.le_of_ble_eq_true rfl), (Nat.le_of_ble_eq_true rfl)⟩) hS (fun q _ h => hFc q h) hFc (fun r u t H locs ht hvm hw hB hz1 hk1 hS => ?_)
      obtain ⟨rfl, rfl⟩ := hw
      obtain ⟨hP, hD, hK⟩ := tw_join (wr := [(pr, .inl (cP, 2, .inr (.inr (.inr (.inr ((tw_two r0 r1))))))), (r0, .inl (cR, 24, .inr (.inr (.inr (.inr ((fun _ => none))))))), (r1, .inl (cR, 24, .inr (.inr (.inr (.inr ((fun _ => none)))))))]) hP hD hK [3] [0, 1, 2] rfl rfl (by decide) (by decide) hk1 hFc ht hvm hB
      have hP : va_P D vwCl [(pr, .inl (cP, 2, .inr (.inr (.inr (.inr ((tw_two r0 r1))))))), (r0, .inl (cR, 24, .inr (.inr (.inr (.inr ((fun _ => none))))))), (r1, .inl (cR, 24, .inr (.inr (.inr (.inr ((fun _ => none))))))), (mm, .inr (10, [.int 2, .int 9, .int 0, .int 99, .ref c2, .ref ps2, .ref pr, .int 0, .int 0, .int ((-1)), .ref l2, .long 0]))] _ := hP
      have hD : va_D A [(pr, .inl (cP, 2, .inr (.inr (.inr (.inr ((tw_two r0 r1))))))), (r0, .inl (cR, 24, .inr (.inr (.inr (.inr ((fun _ => none))))))), (r1, .inl (cR, 24, .inr (.inr (.inr (.inr ((fun _ => none))))))), (mm, .inr (10, [.int 2, .int 9, .int 0, .int 99, .ref c2, .ref ps2, .ref pr, .int 0, .int 0, .int ((-1)), .ref l2, .long 0]))] := hD
      have hK : va_K D vwCl [(cP, .array (.object "TowerliftryModel$Car")), (cR, .object "TowerliftryModel$Car")] s := hK
      refine W.widen (k := 0) (n := 0) (Nat.le_refl _) (Nat.le_refl _) ?_
      refine W.eq (g2 := F0 m 40 ls [.int 0]) rfl ?_
      refine lv_goto (tgt := 51) hx hb dX6_promised_40 (by decide) ?_
      refine W.widen (k := 0) (n := 0) (Nat.le_of_ble_eq_true rfl) (Nat.le_of_ble_eq_true rfl) ?_
      have hP9 := hP.sub (ws' := [(mm, .inr (10, [.int 2, .int 9, .int 0, .int 99, .ref c2, .ref ps2, .ref pr, .int 0, .int 0, .int ((-1)), .ref l2, .long 0]))]) [3] rfl
      have hD9 := hD.sub (ws' := [(mm, .inr (10, [.int 2, .int 9, .int 0, .int 99, .ref c2, .ref ps2, .ref pr, .int 0, .int 0, .int ((-1)), .ref l2, .long 0]))]) [3] (by decide) rfl
      have hK9 := hK.sub (tys' := []) [] rfl
      exact W.iret (v := 0) hx hb hr (fun t ht hW => ⟨⟨0, ([(mm, .inr (10, [.int 2, .int 9, .int 0, .int 99, .ref c2, .ref ps2, .ref pr, .int 0, .int 0, .int ((-1)), .ref l2, .long 0]))], []), rfl, (Or.inr (⟨(Or.inl ⟨g_2, c_3⟩), rfl, rfl⟩)), by rw [ht]; exact hP9, va_K.moved hW.alike hK9, hD9⟩, hS.F ht⟩) hS.2.2 dX6_promised_51
    · refine lv_iconst (v := 1) hx hb dX6_promised_22 (by decide) ?_
      refine lv_goto (tgt := 27) hx hb dX6_promised_23 (by decide) ?_
      refine tw_aldA hx hb hK hP 0 0 rfl rfl (by unfold vp_in; decide) dX6_promised_27 ?_
      rw [tw_two1]
      refine W.eq (g2 := F0 m 28 ls [.ref r1]) rfl ?_
      refine lv_iload_n hx hb dX6_promised_28 rfl (lv_at hl 1 rfl) ?_
      refine va_aldq hx hb hK hP 2 1 rfl rfl (tw_in9 g_2 (by decide) (by decide)) dX6_promised_29 ?_
      refine W.eq (g2 := F0 m 30 ls [.null]) rfl ?_
      refine lv_astore_nN (lv' := [(3, .null), (0, .ref mm), (1, .int p0), (2, .int p1)]) hx hb dX6_promised_30 rfl hl (by decide) rfl (fun ls hl => ?_)
      refine lv_aload_nN hx hb dX6_promised_31 rfl (lv_at hl 0 rfl) ?_
      refine lv_ifnonnullN hx hb dX6_promised_32 ?_
      refine lv_aload_n hx hb dX6_promised_35 rfl (lv_at hl 1 rfl) ?_
      refine lv_iconst (v := 2) hx hb dX6_promised_36 (by decide) ?_
      have hPc := hP.sub (ws' := [(mm, .inr (10, [.int 0, .int 9, .int 0, .int 99, .ref c2, .ref ps2, .ref pr, .int 0, .int 0, .int ((-1)), .ref l2, .long 0]))]) [3] rfl
      have hDc := hD.sub (ws' := [(mm, .inr (10, [.int 0, .int 9, .int 0, .int 99, .ref c2, .ref ps2, .ref pr, .int 0, .int 0, .int ((-1)), .ref l2, .long 0]))]) [3] (by decide) rfl
      have hKc := hK.sub (tys' := []) [] rfl
      have hFc := va_free (wc := [(mm, .inr (10, [.int 0, .int 9, .int 0, .int 99, .ref c2, .ref ps2, .ref pr, .int 0, .int 0, .int ((-1)), .ref l2, .long 0]))]) hD hS hA [3] rfl
      refine va_calli (va_runV (As := [.int 2]) (rest := []) ⟨hx, hb, hml, hown, hts⟩ (c_X6_fails l hst em kw kb D mm 2 0 9 0 99 c2 ps2 pr 0 0 ((-1)) l2 0 _) (cwV 1 hts gX6_promised_X6_fails rfl rfl rfl (by decide +kernel) ⟨(Nat.le_of_ble_eq_true rfl), (Nat.le_of_ble_eq_true rfl)⟩) (tw_preV hF hS hFc hPc hKc hDc (va_recv hKc hPc (ci := 10) (q0 := 0) rfl rfl)) rfl rfl hl.1 rfl (lv_room (Nat.le_of_ble_eq_true rfl)) dX6_promised_37 ⟨(Nat.le_of_ble_eq_true rfl), (Nat.le_of_ble_eq_true rfl)⟩) hS (fun q _ h => hFc q h) hFc (fun r u t H locs ht hvm hw hB hz1 hk1 hS => ?_)
      obtain ⟨rfl, rfl⟩ := hw
      obtain ⟨hP, hD, hK⟩ := tw_join (wr := [(pr, .inl (cP, 2, .inr (.inr (.inr (.inr ((tw_two r0 r1))))))), (r0, .inl (cR, 24, .inr (.inr (.inr (.inr ((fun _ => none))))))), (r1, .inl (cR, 24, .inr (.inr (.inr (.inr ((fun _ => none)))))))]) hP hD hK [3] [0, 1, 2] rfl rfl (by decide) (by decide) hk1 hFc ht hvm hB
      have hP : va_P D vwCl [(pr, .inl (cP, 2, .inr (.inr (.inr (.inr ((tw_two r0 r1))))))), (r0, .inl (cR, 24, .inr (.inr (.inr (.inr ((fun _ => none))))))), (r1, .inl (cR, 24, .inr (.inr (.inr (.inr ((fun _ => none))))))), (mm, .inr (10, [.int 2, .int 9, .int 0, .int 99, .ref c2, .ref ps2, .ref pr, .int 0, .int 0, .int ((-1)), .ref l2, .long 0]))] _ := hP
      have hD : va_D A [(pr, .inl (cP, 2, .inr (.inr (.inr (.inr ((tw_two r0 r1))))))), (r0, .inl (cR, 24, .inr (.inr (.inr (.inr ((fun _ => none))))))), (r1, .inl (cR, 24, .inr (.inr (.inr (.inr ((fun _ => none))))))), (mm, .inr (10, [.int 2, .int 9, .int 0, .int 99, .ref c2, .ref ps2, .ref pr, .int 0, .int 0, .int ((-1)), .ref l2, .long 0]))] := hD
      have hK : va_K D vwCl [(cP, .array (.object "TowerliftryModel$Car")), (cR, .object "TowerliftryModel$Car")] s := hK
      refine W.widen (k := 0) (n := 0) (Nat.le_refl _) (Nat.le_refl _) ?_
      refine W.eq (g2 := F0 m 40 ls [.int 0]) rfl ?_
      refine lv_goto (tgt := 51) hx hb dX6_promised_40 (by decide) ?_
      refine W.widen (k := 0) (n := 0) (Nat.le_of_ble_eq_true rfl) (Nat.le_of_ble_eq_true rfl) ?_
      have hP9 := hP.sub (ws' := [(mm, .inr (10, [.int 2, .int 9, .int 0, .int 99, .ref c2, .ref ps2, .ref pr, .int 0, .int 0, .int ((-1)), .ref l2, .long 0]))]) [3] rfl
      have hD9 := hD.sub (ws' := [(mm, .inr (10, [.int 2, .int 9, .int 0, .int 99, .ref c2, .ref ps2, .ref pr, .int 0, .int 0, .int ((-1)), .ref l2, .long 0]))]) [3] (by decide) rfl
      have hK9 := hK.sub (tys' := []) [] rfl
      exact W.iret (v := 0) hx hb hr (fun t ht hW => ⟨⟨0, ([(mm, .inr (10, [.int 2, .int 9, .int 0, .int 99, .ref c2, .ref ps2, .ref pr, .int 0, .int 0, .int ((-1)), .ref l2, .long 0]))], []), rfl, (Or.inr (⟨(Or.inr (⟨g_2, c_3⟩)), rfl, rfl⟩)), by rw [ht]; exact hP9, va_K.moved hW.alike hK9, hD9⟩, hS.F ht⟩) hS.2.2 dX6_promised_51
set_option maxHeartbeats 4000000 in
set_option maxRecDepth 100000 in
theorem c_X6_forgetsAll (l : Launch) (hst : l.stackTraces = false) (em kw kb : Nat) (D : va_G) (mm : Nat) (f0 : Int32) (f1 : Int32) (f2 : Int32) (f3 : Int32) (c2 : Nat) (ps2 : Nat) (pr : Nat) (f4 : Int32) (f5 : Int32) (f6 : Int32) (l2 : Nat) (g0 : Int64) (cP : ClassId) (r0 : Nat) (cR : ClassId) (r1 : Nat) (sz : Nat) : Met l yX6_forgetsAll wsX6_forgetsAll ({ frames := 0, cells := 0, slots := 0, locals := 0 }) (va_Pc [.ref mm, .null] (tw_Pre em kw kb D sz [(mm, .inr (10, [.int f0, .int f1, .int f2, .int f3, .ref c2, .ref ps2, .ref pr, .int f4, .int f5, .int f6, .ref l2, .long g0])), (pr, .inl (cP, 2, .inr (.inr (.inr (.inr ((tw_two r0 r1))))))), (r0, .inl (cR, 24, .inr (.inr (.inr (.inr ((fun _ => none))))))), (r1, .inl (cR, 24, .inr (.inr (.inr (.inr ((fun _ => none)))))))] [(cP, .array (.object "TowerliftryModel$Car")), (cR, .object "TowerliftryModel$Car")])) (va_Qi (fun (r : Int32) (u : tw_U) => r = 0 ∧ u = ([(mm, .inr (10, [.int f0, .int f1, .int f2, .int f3, .ref c2, .ref ps2, .ref pr, .int f4, .int f5, .int f6, .ref l2, .long g0])), (pr, .inl (cP, 2, .inr (.inr (.inr (.inr ((tw_two r0 r1))))))), (r0, .inl (cR, 24, .inr (.inr (.inr (.inr ((fun _ => none))))))), (r1, .inl (cR, 24, .inr (.inr (.inr (.inr ((fun _ => none)))))))], [])) (tw_B D (va_A [(mm, .inr (10, [.int f0, .int f1, .int f2, .int f3, .ref c2, .ref ps2, .ref pr, .int f4, .int f5, .int f6, .ref l2, .long g0])), (pr, .inl (cP, 2, .inr (.inr (.inr (.inr ((tw_two r0 r1))))))), (r0, .inl (cR, 24, .inr (.inr (.inr (.inr ((fun _ => none))))))), (r1, .inl (cR, 24, .inr (.inr (.inr (.inr ((fun _ => none)))))))] sz)) (va_A [(mm, .inr (10, [.int f0, .int f1, .int f2, .int f3, .ref c2, .ref ps2, .ref pr, .int f4, .int f5, .int f6, .ref l2, .long g0])), (pr, .inl (cP, 2, .inr (.inr (.inr (.inr ((tw_two r0 r1))))))), (r0, .inl (cR, 24, .inr (.inr (.inr (.inr ((fun _ => none))))))), (r1, .inl (cR, 24, .inr (.inr (.inr (.inr ((fun _ => none)))))))] sz)) 0 0 (va_A [(mm, .inr (10, [.int f0, .int f1, .int f2, .int f3, .ref c2, .ref ps2, .ref pr, .int f4, .int f5, .int f6, .ref l2, .long g0])), (pr, .inl (cP, 2, .inr (.inr (.inr (.inr ((tw_two r0 r1))))))), (r0, .inl (cR, 24, .inr (.inr (.inr (.inr ((fun _ => none))))))), (r1, .inl (cR, 24, .inr (.inr (.inr (.inr ((fun _ => none)))))))] sz) := by
  refine Met.ofW (cc := cX6_forgetsAll) (maxL := 5) (ret := (some .int)) (by decide) rfl ?_
  intro p e s m args below meth c s₁ B hml hv
  obtain ⟨rfl, hsz, hP, hK, hD0, hF⟩ := hv
  have hx := B.exec
  have hb := B.bytes
  have hr := B.returns
  have hts := atoms_spec (ws := wsX6_forgetsAll) B.pre
  have hown : s.vm.findClass RX6 = some m.cls := findClass_of_methodNamed B.named
  have hlocks := B.notSynchronized
  have hiRX6 : ∀ w ∈ u_ws RX6 TX6 12, w ∈ wsX6_forgetsAll := by decide +kernel
  subst hsz
  have hD := hD0.self (sz := s.heap.size)
  generalize hAe : va_A [(mm, .inr (10, [.int f0, .int f1, .int f2, .int f3, .ref c2, .ref ps2, .ref pr, .int f4, .int f5, .int f6, .ref l2, .long g0])), (pr, .inl (cP, 2, .inr (.inr (.inr (.inr ((tw_two r0 r1))))))), (r0, .inl (cR, 24, .inr (.inr (.inr (.inr ((fun _ => none))))))), (r1, .inl (cR, 24, .inr (.inr (.inr (.inr ((fun _ => none)))))))] s.heap.size = A at hD hF ⊢
  have hA : ∀ q : Nat, s.heap.size ≤ q → A q := fun q h => by rw [← hAe]; exact Or.inr h
  have hS : va_S A s.heap s.heap [] := va_S.rf
  have hP : va_P D vwCl [(mm, .inr (10, [.int f0, .int f1, .int f2, .int f3, .ref c2, .ref ps2, .ref pr, .int f4, .int f5, .int f6, .ref l2, .long g0])), (pr, .inl (cP, 2, .inr (.inr (.inr (.inr ((tw_two r0 r1))))))), (r0, .inl (cR, 24, .inr (.inr (.inr (.inr ((fun _ => none))))))), (r1, .inl (cR, 24, .inr (.inr (.inr (.inr ((fun _ => none)))))))] s.heap := hP
  have hl := lv_entry ([.ref mm, .null]) (n := 5) (Nat.le_of_ble_eq_true rfl)
  rw [lg_entry_eq]
  generalize (lg_sl ([.ref mm, .null]) ++ List.replicate (5 - (lg_sl ([.ref mm, .null])).length) Slot.unset).toArray = ls at hl ⊢
  have hl : lv_has ls 5 [(0, .ref mm), (1, .null)] := hl
  refine lv_iconst (v := 0) hx hb dX6_forgetsAll_0 (by decide) ?_
  refine lv_istore_n (lv' := [(2, .int 0), (0, .ref mm), (1, .null)]) hx hb dX6_forgetsAll_1 rfl hl (by decide) rfl (fun ls hl => ?_)
  refine lv_iconst (v := 0) hx hb dX6_forgetsAll_2 (by decide) ?_
  refine lv_istore_n (lv' := [(3, .int 0), (2, .int 0), (0, .ref mm), (1, .null)]) hx hb dX6_forgetsAll_3 rfl hl (by decide) rfl (fun ls hl => ?_)
  refine lv_iload_n hx hb dX6_forgetsAll_4 rfl (lv_at hl 0 rfl) ?_
  refine lv_iconst (v := 2) hx hb dX6_forgetsAll_5 (by decide) ?_
  refine lv_icmp_ge (tgt := 76) hx hb dX6_forgetsAll_6 (by decide) (fun c9 => absurd c9 (by decide)) (fun c9 => ?_)
  refine lv_iconst (v := 0) hx hb dX6_forgetsAll_9 (by decide) ?_
  refine lv_istore (lv' := [(4, .int 0), (3, .int 0), (2, .int 0), (0, .ref mm), (1, .null)]) hx hb dX6_forgetsAll_10 hl (by decide) rfl (fun ls hl => ?_)
  refine lv_iload hx hb dX6_forgetsAll_12 (lv_at hl 0 rfl) ?_
  refine lv_bipush (v := 24) hx hb dX6_forgetsAll_14 (by decide) ?_
  refine lv_icmp_ge (tgt := 70) hx hb dX6_forgetsAll_16 (by decide) (fun c9 => absurd c9 (by decide)) (fun c9 => ?_)
  refine lv_aload_n hx hb dX6_forgetsAll_19 rfl (lv_at hl 3 rfl) ?_
  refine va_get (D := D) (ci := 10) (v := .ref pr) (C := RX6) (T := TX6) (N := 12) hx hb hts hiRX6 hown hK hP 0 rfl rfl 6 (by decide) (hts (.fieldLink RX6 29 "TowerliftryModel" "promises" "[[LTowerliftryModel$Car;") (by decide +kernel)) (fun _ h9 => h9) rfl dX6_forgetsAll_20 ?_
  refine lv_iload_n hx hb dX6_forgetsAll_23 rfl (lv_at hl 1 rfl) ?_
  refine tw_aldA hx hb hK hP 1 0 rfl rfl (by unfold vp_in; decide) dX6_forgetsAll_24 ?_
  rw [tw_two0]
  refine W.eq (g2 := F0 m 25 ls [.ref r0]) rfl ?_
  refine lv_iload hx hb dX6_forgetsAll_25 (lv_at hl 0 rfl) ?_
  refine va_aldq hx hb hK hP 2 1 rfl rfl (by unfold vp_in; decide) dX6_forgetsAll_27 ?_
  refine W.eq (g2 := F0 m 28 ls [.null]) rfl ?_
  refine lv_ifnullN (tgt := 64) hx hb dX6_forgetsAll_28 (by decide) ?_
  refine lv_iinc (v := 1) (lv' := [(4, .int 1), (3, .int 0), (2, .int 0), (0, .ref mm), (1, .null)]) hx hb dX6_forgetsAll_64 hl (k := 0) rfl (by decide) (by decide) rfl (fun ls hl => ?_)
  refine lv_goto (tgt := 12) hx hb dX6_forgetsAll_67 (by decide) ?_
  refine lv_iload hx hb dX6_forgetsAll_12 (lv_at hl 0 rfl) ?_
  refine lv_bipush (v := 24) hx hb dX6_forgetsAll_14 (by decide) ?_
  refine lv_icmp_ge (tgt := 70) hx hb dX6_forgetsAll_16 (by decide) (fun c9 => absurd c9 (by decide)) (fun c9 => ?_)
  refine lv_aload_n hx hb dX6_forgetsAll_19 rfl (lv_at hl 3 rfl) ?_
  refine va_get (D := D) (ci := 10) (v := .ref pr) (C := RX6) (T := TX6) (N := 12) hx hb hts hiRX6 hown hK hP 0 rfl rfl 6 (by decide) (hts (.fieldLink RX6 29 "TowerliftryModel" "promises" "[[LTowerliftryModel$Car;") (by decide +kernel)) (fun _ h9 => h9) rfl dX6_forgetsAll_20 ?_
  refine lv_iload_n hx hb dX6_forgetsAll_23 rfl (lv_at hl 1 rfl) ?_
  refine tw_aldA hx hb hK hP 1 0 rfl rfl (by unfold vp_in; decide) dX6_forgetsAll_24 ?_
  rw [tw_two0]
  refine W.eq (g2 := F0 m 25 ls [.ref r0]) rfl ?_
  refine lv_iload hx hb dX6_forgetsAll_25 (lv_at hl 0 rfl) ?_
  refine va_aldq hx hb hK hP 2 1 rfl rfl (by unfold vp_in; decide) dX6_forgetsAll_27 ?_
  refine W.eq (g2 := F0 m 28 ls [.null]) rfl ?_
  refine lv_ifnullN (tgt := 64) hx hb dX6_forgetsAll_28 (by decide) ?_
  refine lv_iinc (v := 2) (lv' := [(4, .int 2), (3, .int 0), (2, .int 0), (0, .ref mm), (1, .null)]) hx hb dX6_forgetsAll_64 hl (k := 0) rfl (by decide) (by decide) rfl (fun ls hl => ?_)
  refine lv_goto (tgt := 12) hx hb dX6_forgetsAll_67 (by decide) ?_
  refine lv_iload hx hb dX6_forgetsAll_12 (lv_at hl 0 rfl) ?_
  refine lv_bipush (v := 24) hx hb dX6_forgetsAll_14 (by decide) ?_
  refine lv_icmp_ge (tgt := 70) hx hb dX6_forgetsAll_16 (by decide) (fun c9 => absurd c9 (by decide)) (fun c9 => ?_)
  refine lv_aload_n hx hb dX6_forgetsAll_19 rfl (lv_at hl 3 rfl) ?_
  refine va_get (D := D) (ci := 10) (v := .ref pr) (C := RX6) (T := TX6) (N := 12) hx hb hts hiRX6 hown hK hP 0 rfl rfl 6 (by decide) (hts (.fieldLink RX6 29 "TowerliftryModel" "promises" "[[LTowerliftryModel$Car;") (by decide +kernel)) (fun _ h9 => h9) rfl dX6_forgetsAll_20 ?_
  refine lv_iload_n hx hb dX6_forgetsAll_23 rfl (lv_at hl 1 rfl) ?_
  refine tw_aldA hx hb hK hP 1 0 rfl rfl (by unfold vp_in; decide) dX6_forgetsAll_24 ?_
  rw [tw_two0]
  refine W.eq (g2 := F0 m 25 ls [.ref r0]) rfl ?_
  refine lv_iload hx hb dX6_forgetsAll_25 (lv_at hl 0 rfl) ?_
  refine va_aldq hx hb hK hP 2 1 rfl rfl (by unfold vp_in; decide) dX6_forgetsAll_27 ?_
  refine W.eq (g2 := F0 m 28 ls [.null]) rfl ?_
  refine lv_ifnullN (tgt := 64) hx hb dX6_forgetsAll_28 (by decide) ?_
  refine lv_iinc (v := 3) (lv' := [(4, .int 3), (3, .int 0), (2, .int 0), (0, .ref mm), (1, .null)]) hx hb dX6_forgetsAll_64 hl (k := 0) rfl (by decide) (by decide) rfl (fun ls hl => ?_)
  refine lv_goto (tgt := 12) hx hb dX6_forgetsAll_67 (by decide) ?_
  refine lv_iload hx hb dX6_forgetsAll_12 (lv_at hl 0 rfl) ?_
  refine lv_bipush (v := 24) hx hb dX6_forgetsAll_14 (by decide) ?_
  refine lv_icmp_ge (tgt := 70) hx hb dX6_forgetsAll_16 (by decide) (fun c9 => absurd c9 (by decide)) (fun c9 => ?_)
  refine lv_aload_n hx hb dX6_forgetsAll_19 rfl (lv_at hl 3 rfl) ?_
  refine va_get (D := D) (ci := 10) (v := .ref pr) (C := RX6) (T := TX6) (N := 12) hx hb hts hiRX6 hown hK hP 0 rfl rfl 6 (by decide) (hts (.fieldLink RX6 29 "TowerliftryModel" "promises" "[[LTowerliftryModel$Car;") (by decide +kernel)) (fun _ h9 => h9) rfl dX6_forgetsAll_20 ?_
  refine lv_iload_n hx hb dX6_forgetsAll_23 rfl (lv_at hl 1 rfl) ?_
  refine tw_aldA hx hb hK hP 1 0 rfl rfl (by unfold vp_in; decide) dX6_forgetsAll_24 ?_
  rw [tw_two0]
  refine W.eq (g2 := F0 m 25 ls [.ref r0]) rfl ?_
  refine lv_iload hx hb dX6_forgetsAll_25 (lv_at hl 0 rfl) ?_
  refine va_aldq hx hb hK hP 2 1 rfl rfl (by unfold vp_in; decide) dX6_forgetsAll_27 ?_
  refine W.eq (g2 := F0 m 28 ls [.null]) rfl ?_
  refine lv_ifnullN (tgt := 64) hx hb dX6_forgetsAll_28 (by decide) ?_
  refine lv_iinc (v := 4) (lv' := [(4, .int 4), (3, .int 0), (2, .int 0), (0, .ref mm), (1, .null)]) hx hb dX6_forgetsAll_64 hl (k := 0) rfl (by decide) (by decide) rfl (fun ls hl => ?_)
  refine lv_goto (tgt := 12) hx hb dX6_forgetsAll_67 (by decide) ?_
  refine lv_iload hx hb dX6_forgetsAll_12 (lv_at hl 0 rfl) ?_
  refine lv_bipush (v := 24) hx hb dX6_forgetsAll_14 (by decide) ?_
  refine lv_icmp_ge (tgt := 70) hx hb dX6_forgetsAll_16 (by decide) (fun c9 => absurd c9 (by decide)) (fun c9 => ?_)
  refine lv_aload_n hx hb dX6_forgetsAll_19 rfl (lv_at hl 3 rfl) ?_
  refine va_get (D := D) (ci := 10) (v := .ref pr) (C := RX6) (T := TX6) (N := 12) hx hb hts hiRX6 hown hK hP 0 rfl rfl 6 (by decide) (hts (.fieldLink RX6 29 "TowerliftryModel" "promises" "[[LTowerliftryModel$Car;") (by decide +kernel)) (fun _ h9 => h9) rfl dX6_forgetsAll_20 ?_
  refine lv_iload_n hx hb dX6_forgetsAll_23 rfl (lv_at hl 1 rfl) ?_
  refine tw_aldA hx hb hK hP 1 0 rfl rfl (by unfold vp_in; decide) dX6_forgetsAll_24 ?_
  rw [tw_two0]
  refine W.eq (g2 := F0 m 25 ls [.ref r0]) rfl ?_
  refine lv_iload hx hb dX6_forgetsAll_25 (lv_at hl 0 rfl) ?_
  refine va_aldq hx hb hK hP 2 1 rfl rfl (by unfold vp_in; decide) dX6_forgetsAll_27 ?_
  refine W.eq (g2 := F0 m 28 ls [.null]) rfl ?_
  refine lv_ifnullN (tgt := 64) hx hb dX6_forgetsAll_28 (by decide) ?_
  refine lv_iinc (v := 5) (lv' := [(4, .int 5), (3, .int 0), (2, .int 0), (0, .ref mm), (1, .null)]) hx hb dX6_forgetsAll_64 hl (k := 0) rfl (by decide) (by decide) rfl (fun ls hl => ?_)
  refine lv_goto (tgt := 12) hx hb dX6_forgetsAll_67 (by decide) ?_
  refine lv_iload hx hb dX6_forgetsAll_12 (lv_at hl 0 rfl) ?_
  refine lv_bipush (v := 24) hx hb dX6_forgetsAll_14 (by decide) ?_
  refine lv_icmp_ge (tgt := 70) hx hb dX6_forgetsAll_16 (by decide) (fun c9 => absurd c9 (by decide)) (fun c9 => ?_)
  refine lv_aload_n hx hb dX6_forgetsAll_19 rfl (lv_at hl 3 rfl) ?_
  refine va_get (D := D) (ci := 10) (v := .ref pr) (C := RX6) (T := TX6) (N := 12) hx hb hts hiRX6 hown hK hP 0 rfl rfl 6 (by decide) (hts (.fieldLink RX6 29 "TowerliftryModel" "promises" "[[LTowerliftryModel$Car;") (by decide +kernel)) (fun _ h9 => h9) rfl dX6_forgetsAll_20 ?_
  refine lv_iload_n hx hb dX6_forgetsAll_23 rfl (lv_at hl 1 rfl) ?_
  refine tw_aldA hx hb hK hP 1 0 rfl rfl (by unfold vp_in; decide) dX6_forgetsAll_24 ?_
  rw [tw_two0]
  refine W.eq (g2 := F0 m 25 ls [.ref r0]) rfl ?_
  refine lv_iload hx hb dX6_forgetsAll_25 (lv_at hl 0 rfl) ?_
  refine va_aldq hx hb hK hP 2 1 rfl rfl (by unfold vp_in; decide) dX6_forgetsAll_27 ?_
  refine W.eq (g2 := F0 m 28 ls [.null]) rfl ?_
  refine lv_ifnullN (tgt := 64) hx hb dX6_forgetsAll_28 (by decide) ?_
  refine lv_iinc (v := 6) (lv' := [(4, .int 6), (3, .int 0), (2, .int 0), (0, .ref mm), (1, .null)]) hx hb dX6_forgetsAll_64 hl (k := 0) rfl (by decide) (by decide) rfl (fun ls hl => ?_)
  refine lv_goto (tgt := 12) hx hb dX6_forgetsAll_67 (by decide) ?_
  refine lv_iload hx hb dX6_forgetsAll_12 (lv_at hl 0 rfl) ?_
  refine lv_bipush (v := 24) hx hb dX6_forgetsAll_14 (by decide) ?_
  refine lv_icmp_ge (tgt := 70) hx hb dX6_forgetsAll_16 (by decide) (fun c9 => absurd c9 (by decide)) (fun c9 => ?_)
  refine lv_aload_n hx hb dX6_forgetsAll_19 rfl (lv_at hl 3 rfl) ?_
  refine va_get (D := D) (ci := 10) (v := .ref pr) (C := RX6) (T := TX6) (N := 12) hx hb hts hiRX6 hown hK hP 0 rfl rfl 6 (by decide) (hts (.fieldLink RX6 29 "TowerliftryModel" "promises" "[[LTowerliftryModel$Car;") (by decide +kernel)) (fun _ h9 => h9) rfl dX6_forgetsAll_20 ?_
  refine lv_iload_n hx hb dX6_forgetsAll_23 rfl (lv_at hl 1 rfl) ?_
  refine tw_aldA hx hb hK hP 1 0 rfl rfl (by unfold vp_in; decide) dX6_forgetsAll_24 ?_
  rw [tw_two0]
  refine W.eq (g2 := F0 m 25 ls [.ref r0]) rfl ?_
  refine lv_iload hx hb dX6_forgetsAll_25 (lv_at hl 0 rfl) ?_
  refine va_aldq hx hb hK hP 2 1 rfl rfl (by unfold vp_in; decide) dX6_forgetsAll_27 ?_
  refine W.eq (g2 := F0 m 28 ls [.null]) rfl ?_
  refine lv_ifnullN (tgt := 64) hx hb dX6_forgetsAll_28 (by decide) ?_
  refine lv_iinc (v := 7) (lv' := [(4, .int 7), (3, .int 0), (2, .int 0), (0, .ref mm), (1, .null)]) hx hb dX6_forgetsAll_64 hl (k := 0) rfl (by decide) (by decide) rfl (fun ls hl => ?_)
  refine lv_goto (tgt := 12) hx hb dX6_forgetsAll_67 (by decide) ?_
  refine lv_iload hx hb dX6_forgetsAll_12 (lv_at hl 0 rfl) ?_
  refine lv_bipush (v := 24) hx hb dX6_forgetsAll_14 (by decide) ?_
  refine lv_icmp_ge (tgt := 70) hx hb dX6_forgetsAll_16 (by decide) (fun c9 => absurd c9 (by decide)) (fun c9 => ?_)
  refine lv_aload_n hx hb dX6_forgetsAll_19 rfl (lv_at hl 3 rfl) ?_
  refine va_get (D := D) (ci := 10) (v := .ref pr) (C := RX6) (T := TX6) (N := 12) hx hb hts hiRX6 hown hK hP 0 rfl rfl 6 (by decide) (hts (.fieldLink RX6 29 "TowerliftryModel" "promises" "[[LTowerliftryModel$Car;") (by decide +kernel)) (fun _ h9 => h9) rfl dX6_forgetsAll_20 ?_
  refine lv_iload_n hx hb dX6_forgetsAll_23 rfl (lv_at hl 1 rfl) ?_
  refine tw_aldA hx hb hK hP 1 0 rfl rfl (by unfold vp_in; decide) dX6_forgetsAll_24 ?_
  rw [tw_two0]
  refine W.eq (g2 := F0 m 25 ls [.ref r0]) rfl ?_
  refine lv_iload hx hb dX6_forgetsAll_25 (lv_at hl 0 rfl) ?_
  refine va_aldq hx hb hK hP 2 1 rfl rfl (by unfold vp_in; decide) dX6_forgetsAll_27 ?_
  refine W.eq (g2 := F0 m 28 ls [.null]) rfl ?_
  refine lv_ifnullN (tgt := 64) hx hb dX6_forgetsAll_28 (by decide) ?_
  refine lv_iinc (v := 8) (lv' := [(4, .int 8), (3, .int 0), (2, .int 0), (0, .ref mm), (1, .null)]) hx hb dX6_forgetsAll_64 hl (k := 0) rfl (by decide) (by decide) rfl (fun ls hl => ?_)
  refine lv_goto (tgt := 12) hx hb dX6_forgetsAll_67 (by decide) ?_
  refine lv_iload hx hb dX6_forgetsAll_12 (lv_at hl 0 rfl) ?_
  refine lv_bipush (v := 24) hx hb dX6_forgetsAll_14 (by decide) ?_
  refine lv_icmp_ge (tgt := 70) hx hb dX6_forgetsAll_16 (by decide) (fun c9 => absurd c9 (by decide)) (fun c9 => ?_)
  refine lv_aload_n hx hb dX6_forgetsAll_19 rfl (lv_at hl 3 rfl) ?_
  refine va_get (D := D) (ci := 10) (v := .ref pr) (C := RX6) (T := TX6) (N := 12) hx hb hts hiRX6 hown hK hP 0 rfl rfl 6 (by decide) (hts (.fieldLink RX6 29 "TowerliftryModel" "promises" "[[LTowerliftryModel$Car;") (by decide +kernel)) (fun _ h9 => h9) rfl dX6_forgetsAll_20 ?_
  refine lv_iload_n hx hb dX6_forgetsAll_23 rfl (lv_at hl 1 rfl) ?_
  refine tw_aldA hx hb hK hP 1 0 rfl rfl (by unfold vp_in; decide) dX6_forgetsAll_24 ?_
  rw [tw_two0]
  refine W.eq (g2 := F0 m 25 ls [.ref r0]) rfl ?_
  refine lv_iload hx hb dX6_forgetsAll_25 (lv_at hl 0 rfl) ?_
  refine va_aldq hx hb hK hP 2 1 rfl rfl (by unfold vp_in; decide) dX6_forgetsAll_27 ?_
  refine W.eq (g2 := F0 m 28 ls [.null]) rfl ?_
  refine lv_ifnullN (tgt := 64) hx hb dX6_forgetsAll_28 (by decide) ?_
  refine lv_iinc (v := 9) (lv' := [(4, .int 9), (3, .int 0), (2, .int 0), (0, .ref mm), (1, .null)]) hx hb dX6_forgetsAll_64 hl (k := 0) rfl (by decide) (by decide) rfl (fun ls hl => ?_)
  refine lv_goto (tgt := 12) hx hb dX6_forgetsAll_67 (by decide) ?_
  refine lv_iload hx hb dX6_forgetsAll_12 (lv_at hl 0 rfl) ?_
  refine lv_bipush (v := 24) hx hb dX6_forgetsAll_14 (by decide) ?_
  refine lv_icmp_ge (tgt := 70) hx hb dX6_forgetsAll_16 (by decide) (fun c9 => absurd c9 (by decide)) (fun c9 => ?_)
  refine lv_aload_n hx hb dX6_forgetsAll_19 rfl (lv_at hl 3 rfl) ?_
  refine va_get (D := D) (ci := 10) (v := .ref pr) (C := RX6) (T := TX6) (N := 12) hx hb hts hiRX6 hown hK hP 0 rfl rfl 6 (by decide) (hts (.fieldLink RX6 29 "TowerliftryModel" "promises" "[[LTowerliftryModel$Car;") (by decide +kernel)) (fun _ h9 => h9) rfl dX6_forgetsAll_20 ?_
  refine lv_iload_n hx hb dX6_forgetsAll_23 rfl (lv_at hl 1 rfl) ?_
  refine tw_aldA hx hb hK hP 1 0 rfl rfl (by unfold vp_in; decide) dX6_forgetsAll_24 ?_
  rw [tw_two0]
  refine W.eq (g2 := F0 m 25 ls [.ref r0]) rfl ?_
  refine lv_iload hx hb dX6_forgetsAll_25 (lv_at hl 0 rfl) ?_
  refine va_aldq hx hb hK hP 2 1 rfl rfl (by unfold vp_in; decide) dX6_forgetsAll_27 ?_
  refine W.eq (g2 := F0 m 28 ls [.null]) rfl ?_
  refine lv_ifnullN (tgt := 64) hx hb dX6_forgetsAll_28 (by decide) ?_
  refine lv_iinc (v := 10) (lv' := [(4, .int 10), (3, .int 0), (2, .int 0), (0, .ref mm), (1, .null)]) hx hb dX6_forgetsAll_64 hl (k := 0) rfl (by decide) (by decide) rfl (fun ls hl => ?_)
  refine lv_goto (tgt := 12) hx hb dX6_forgetsAll_67 (by decide) ?_
  refine lv_iload hx hb dX6_forgetsAll_12 (lv_at hl 0 rfl) ?_
  refine lv_bipush (v := 24) hx hb dX6_forgetsAll_14 (by decide) ?_
  refine lv_icmp_ge (tgt := 70) hx hb dX6_forgetsAll_16 (by decide) (fun c9 => absurd c9 (by decide)) (fun c9 => ?_)
  refine lv_aload_n hx hb dX6_forgetsAll_19 rfl (lv_at hl 3 rfl) ?_
  refine va_get (D := D) (ci := 10) (v := .ref pr) (C := RX6) (T := TX6) (N := 12) hx hb hts hiRX6 hown hK hP 0 rfl rfl 6 (by decide) (hts (.fieldLink RX6 29 "TowerliftryModel" "promises" "[[LTowerliftryModel$Car;") (by decide +kernel)) (fun _ h9 => h9) rfl dX6_forgetsAll_20 ?_
  refine lv_iload_n hx hb dX6_forgetsAll_23 rfl (lv_at hl 1 rfl) ?_
  refine tw_aldA hx hb hK hP 1 0 rfl rfl (by unfold vp_in; decide) dX6_forgetsAll_24 ?_
  rw [tw_two0]
  refine W.eq (g2 := F0 m 25 ls [.ref r0]) rfl ?_
  refine lv_iload hx hb dX6_forgetsAll_25 (lv_at hl 0 rfl) ?_
  refine va_aldq hx hb hK hP 2 1 rfl rfl (by unfold vp_in; decide) dX6_forgetsAll_27 ?_
  refine W.eq (g2 := F0 m 28 ls [.null]) rfl ?_
  refine lv_ifnullN (tgt := 64) hx hb dX6_forgetsAll_28 (by decide) ?_
  refine lv_iinc (v := 11) (lv' := [(4, .int 11), (3, .int 0), (2, .int 0), (0, .ref mm), (1, .null)]) hx hb dX6_forgetsAll_64 hl (k := 0) rfl (by decide) (by decide) rfl (fun ls hl => ?_)
  refine lv_goto (tgt := 12) hx hb dX6_forgetsAll_67 (by decide) ?_
  refine lv_iload hx hb dX6_forgetsAll_12 (lv_at hl 0 rfl) ?_
  refine lv_bipush (v := 24) hx hb dX6_forgetsAll_14 (by decide) ?_
  refine lv_icmp_ge (tgt := 70) hx hb dX6_forgetsAll_16 (by decide) (fun c9 => absurd c9 (by decide)) (fun c9 => ?_)
  refine lv_aload_n hx hb dX6_forgetsAll_19 rfl (lv_at hl 3 rfl) ?_
  refine va_get (D := D) (ci := 10) (v := .ref pr) (C := RX6) (T := TX6) (N := 12) hx hb hts hiRX6 hown hK hP 0 rfl rfl 6 (by decide) (hts (.fieldLink RX6 29 "TowerliftryModel" "promises" "[[LTowerliftryModel$Car;") (by decide +kernel)) (fun _ h9 => h9) rfl dX6_forgetsAll_20 ?_
  refine lv_iload_n hx hb dX6_forgetsAll_23 rfl (lv_at hl 1 rfl) ?_
  refine tw_aldA hx hb hK hP 1 0 rfl rfl (by unfold vp_in; decide) dX6_forgetsAll_24 ?_
  rw [tw_two0]
  refine W.eq (g2 := F0 m 25 ls [.ref r0]) rfl ?_
  refine lv_iload hx hb dX6_forgetsAll_25 (lv_at hl 0 rfl) ?_
  refine va_aldq hx hb hK hP 2 1 rfl rfl (by unfold vp_in; decide) dX6_forgetsAll_27 ?_
  refine W.eq (g2 := F0 m 28 ls [.null]) rfl ?_
  refine lv_ifnullN (tgt := 64) hx hb dX6_forgetsAll_28 (by decide) ?_
  refine lv_iinc (v := 12) (lv' := [(4, .int 12), (3, .int 0), (2, .int 0), (0, .ref mm), (1, .null)]) hx hb dX6_forgetsAll_64 hl (k := 0) rfl (by decide) (by decide) rfl (fun ls hl => ?_)
  refine lv_goto (tgt := 12) hx hb dX6_forgetsAll_67 (by decide) ?_
  refine lv_iload hx hb dX6_forgetsAll_12 (lv_at hl 0 rfl) ?_
  refine lv_bipush (v := 24) hx hb dX6_forgetsAll_14 (by decide) ?_
  refine lv_icmp_ge (tgt := 70) hx hb dX6_forgetsAll_16 (by decide) (fun c9 => absurd c9 (by decide)) (fun c9 => ?_)
  refine lv_aload_n hx hb dX6_forgetsAll_19 rfl (lv_at hl 3 rfl) ?_
  refine va_get (D := D) (ci := 10) (v := .ref pr) (C := RX6) (T := TX6) (N := 12) hx hb hts hiRX6 hown hK hP 0 rfl rfl 6 (by decide) (hts (.fieldLink RX6 29 "TowerliftryModel" "promises" "[[LTowerliftryModel$Car;") (by decide +kernel)) (fun _ h9 => h9) rfl dX6_forgetsAll_20 ?_
  refine lv_iload_n hx hb dX6_forgetsAll_23 rfl (lv_at hl 1 rfl) ?_
  refine tw_aldA hx hb hK hP 1 0 rfl rfl (by unfold vp_in; decide) dX6_forgetsAll_24 ?_
  rw [tw_two0]
  refine W.eq (g2 := F0 m 25 ls [.ref r0]) rfl ?_
  refine lv_iload hx hb dX6_forgetsAll_25 (lv_at hl 0 rfl) ?_
  refine va_aldq hx hb hK hP 2 1 rfl rfl (by unfold vp_in; decide) dX6_forgetsAll_27 ?_
  refine W.eq (g2 := F0 m 28 ls [.null]) rfl ?_
  refine lv_ifnullN (tgt := 64) hx hb dX6_forgetsAll_28 (by decide) ?_
  refine lv_iinc (v := 13) (lv' := [(4, .int 13), (3, .int 0), (2, .int 0), (0, .ref mm), (1, .null)]) hx hb dX6_forgetsAll_64 hl (k := 0) rfl (by decide) (by decide) rfl (fun ls hl => ?_)
  refine lv_goto (tgt := 12) hx hb dX6_forgetsAll_67 (by decide) ?_
  refine lv_iload hx hb dX6_forgetsAll_12 (lv_at hl 0 rfl) ?_
  refine lv_bipush (v := 24) hx hb dX6_forgetsAll_14 (by decide) ?_
  refine lv_icmp_ge (tgt := 70) hx hb dX6_forgetsAll_16 (by decide) (fun c9 => absurd c9 (by decide)) (fun c9 => ?_)
  refine lv_aload_n hx hb dX6_forgetsAll_19 rfl (lv_at hl 3 rfl) ?_
  refine va_get (D := D) (ci := 10) (v := .ref pr) (C := RX6) (T := TX6) (N := 12) hx hb hts hiRX6 hown hK hP 0 rfl rfl 6 (by decide) (hts (.fieldLink RX6 29 "TowerliftryModel" "promises" "[[LTowerliftryModel$Car;") (by decide +kernel)) (fun _ h9 => h9) rfl dX6_forgetsAll_20 ?_
  refine lv_iload_n hx hb dX6_forgetsAll_23 rfl (lv_at hl 1 rfl) ?_
  refine tw_aldA hx hb hK hP 1 0 rfl rfl (by unfold vp_in; decide) dX6_forgetsAll_24 ?_
  rw [tw_two0]
  refine W.eq (g2 := F0 m 25 ls [.ref r0]) rfl ?_
  refine lv_iload hx hb dX6_forgetsAll_25 (lv_at hl 0 rfl) ?_
  refine va_aldq hx hb hK hP 2 1 rfl rfl (by unfold vp_in; decide) dX6_forgetsAll_27 ?_
  refine W.eq (g2 := F0 m 28 ls [.null]) rfl ?_
  refine lv_ifnullN (tgt := 64) hx hb dX6_forgetsAll_28 (by decide) ?_
  refine lv_iinc (v := 14) (lv' := [(4, .int 14), (3, .int 0), (2, .int 0), (0, .ref mm), (1, .null)]) hx hb dX6_forgetsAll_64 hl (k := 0) rfl (by decide) (by decide) rfl (fun ls hl => ?_)
  refine lv_goto (tgt := 12) hx hb dX6_forgetsAll_67 (by decide) ?_
  refine lv_iload hx hb dX6_forgetsAll_12 (lv_at hl 0 rfl) ?_
  refine lv_bipush (v := 24) hx hb dX6_forgetsAll_14 (by decide) ?_
  refine lv_icmp_ge (tgt := 70) hx hb dX6_forgetsAll_16 (by decide) (fun c9 => absurd c9 (by decide)) (fun c9 => ?_)
  refine lv_aload_n hx hb dX6_forgetsAll_19 rfl (lv_at hl 3 rfl) ?_
  refine va_get (D := D) (ci := 10) (v := .ref pr) (C := RX6) (T := TX6) (N := 12) hx hb hts hiRX6 hown hK hP 0 rfl rfl 6 (by decide) (hts (.fieldLink RX6 29 "TowerliftryModel" "promises" "[[LTowerliftryModel$Car;") (by decide +kernel)) (fun _ h9 => h9) rfl dX6_forgetsAll_20 ?_
  refine lv_iload_n hx hb dX6_forgetsAll_23 rfl (lv_at hl 1 rfl) ?_
  refine tw_aldA hx hb hK hP 1 0 rfl rfl (by unfold vp_in; decide) dX6_forgetsAll_24 ?_
  rw [tw_two0]
  refine W.eq (g2 := F0 m 25 ls [.ref r0]) rfl ?_
  refine lv_iload hx hb dX6_forgetsAll_25 (lv_at hl 0 rfl) ?_
  refine va_aldq hx hb hK hP 2 1 rfl rfl (by unfold vp_in; decide) dX6_forgetsAll_27 ?_
  refine W.eq (g2 := F0 m 28 ls [.null]) rfl ?_
  refine lv_ifnullN (tgt := 64) hx hb dX6_forgetsAll_28 (by decide) ?_
  refine lv_iinc (v := 15) (lv' := [(4, .int 15), (3, .int 0), (2, .int 0), (0, .ref mm), (1, .null)]) hx hb dX6_forgetsAll_64 hl (k := 0) rfl (by decide) (by decide) rfl (fun ls hl => ?_)
  refine lv_goto (tgt := 12) hx hb dX6_forgetsAll_67 (by decide) ?_
  refine lv_iload hx hb dX6_forgetsAll_12 (lv_at hl 0 rfl) ?_
  refine lv_bipush (v := 24) hx hb dX6_forgetsAll_14 (by decide) ?_
  refine lv_icmp_ge (tgt := 70) hx hb dX6_forgetsAll_16 (by decide) (fun c9 => absurd c9 (by decide)) (fun c9 => ?_)
  refine lv_aload_n hx hb dX6_forgetsAll_19 rfl (lv_at hl 3 rfl) ?_
  refine va_get (D := D) (ci := 10) (v := .ref pr) (C := RX6) (T := TX6) (N := 12) hx hb hts hiRX6 hown hK hP 0 rfl rfl 6 (by decide) (hts (.fieldLink RX6 29 "TowerliftryModel" "promises" "[[LTowerliftryModel$Car;") (by decide +kernel)) (fun _ h9 => h9) rfl dX6_forgetsAll_20 ?_
  refine lv_iload_n hx hb dX6_forgetsAll_23 rfl (lv_at hl 1 rfl) ?_
  refine tw_aldA hx hb hK hP 1 0 rfl rfl (by unfold vp_in; decide) dX6_forgetsAll_24 ?_
  rw [tw_two0]
  refine W.eq (g2 := F0 m 25 ls [.ref r0]) rfl ?_
  refine lv_iload hx hb dX6_forgetsAll_25 (lv_at hl 0 rfl) ?_
  refine va_aldq hx hb hK hP 2 1 rfl rfl (by unfold vp_in; decide) dX6_forgetsAll_27 ?_
  refine W.eq (g2 := F0 m 28 ls [.null]) rfl ?_
  refine lv_ifnullN (tgt := 64) hx hb dX6_forgetsAll_28 (by decide) ?_
  refine lv_iinc (v := 16) (lv' := [(4, .int 16), (3, .int 0), (2, .int 0), (0, .ref mm), (1, .null)]) hx hb dX6_forgetsAll_64 hl (k := 0) rfl (by decide) (by decide) rfl (fun ls hl => ?_)
  refine lv_goto (tgt := 12) hx hb dX6_forgetsAll_67 (by decide) ?_
  refine lv_iload hx hb dX6_forgetsAll_12 (lv_at hl 0 rfl) ?_
  refine lv_bipush (v := 24) hx hb dX6_forgetsAll_14 (by decide) ?_
  refine lv_icmp_ge (tgt := 70) hx hb dX6_forgetsAll_16 (by decide) (fun c9 => absurd c9 (by decide)) (fun c9 => ?_)
  refine lv_aload_n hx hb dX6_forgetsAll_19 rfl (lv_at hl 3 rfl) ?_
  refine va_get (D := D) (ci := 10) (v := .ref pr) (C := RX6) (T := TX6) (N := 12) hx hb hts hiRX6 hown hK hP 0 rfl rfl 6 (by decide) (hts (.fieldLink RX6 29 "TowerliftryModel" "promises" "[[LTowerliftryModel$Car;") (by decide +kernel)) (fun _ h9 => h9) rfl dX6_forgetsAll_20 ?_
  refine lv_iload_n hx hb dX6_forgetsAll_23 rfl (lv_at hl 1 rfl) ?_
  refine tw_aldA hx hb hK hP 1 0 rfl rfl (by unfold vp_in; decide) dX6_forgetsAll_24 ?_
  rw [tw_two0]
  refine W.eq (g2 := F0 m 25 ls [.ref r0]) rfl ?_
  refine lv_iload hx hb dX6_forgetsAll_25 (lv_at hl 0 rfl) ?_
  refine va_aldq hx hb hK hP 2 1 rfl rfl (by unfold vp_in; decide) dX6_forgetsAll_27 ?_
  refine W.eq (g2 := F0 m 28 ls [.null]) rfl ?_
  refine lv_ifnullN (tgt := 64) hx hb dX6_forgetsAll_28 (by decide) ?_
  refine lv_iinc (v := 17) (lv' := [(4, .int 17), (3, .int 0), (2, .int 0), (0, .ref mm), (1, .null)]) hx hb dX6_forgetsAll_64 hl (k := 0) rfl (by decide) (by decide) rfl (fun ls hl => ?_)
  refine lv_goto (tgt := 12) hx hb dX6_forgetsAll_67 (by decide) ?_
  refine lv_iload hx hb dX6_forgetsAll_12 (lv_at hl 0 rfl) ?_
  refine lv_bipush (v := 24) hx hb dX6_forgetsAll_14 (by decide) ?_
  refine lv_icmp_ge (tgt := 70) hx hb dX6_forgetsAll_16 (by decide) (fun c9 => absurd c9 (by decide)) (fun c9 => ?_)
  refine lv_aload_n hx hb dX6_forgetsAll_19 rfl (lv_at hl 3 rfl) ?_
  refine va_get (D := D) (ci := 10) (v := .ref pr) (C := RX6) (T := TX6) (N := 12) hx hb hts hiRX6 hown hK hP 0 rfl rfl 6 (by decide) (hts (.fieldLink RX6 29 "TowerliftryModel" "promises" "[[LTowerliftryModel$Car;") (by decide +kernel)) (fun _ h9 => h9) rfl dX6_forgetsAll_20 ?_
  refine lv_iload_n hx hb dX6_forgetsAll_23 rfl (lv_at hl 1 rfl) ?_
  refine tw_aldA hx hb hK hP 1 0 rfl rfl (by unfold vp_in; decide) dX6_forgetsAll_24 ?_
  rw [tw_two0]
  refine W.eq (g2 := F0 m 25 ls [.ref r0]) rfl ?_
  refine lv_iload hx hb dX6_forgetsAll_25 (lv_at hl 0 rfl) ?_
  refine va_aldq hx hb hK hP 2 1 rfl rfl (by unfold vp_in; decide) dX6_forgetsAll_27 ?_
  refine W.eq (g2 := F0 m 28 ls [.null]) rfl ?_
  refine lv_ifnullN (tgt := 64) hx hb dX6_forgetsAll_28 (by decide) ?_
  refine lv_iinc (v := 18) (lv' := [(4, .int 18), (3, .int 0), (2, .int 0), (0, .ref mm), (1, .null)]) hx hb dX6_forgetsAll_64 hl (k := 0) rfl (by decide) (by decide) rfl (fun ls hl => ?_)
  refine lv_goto (tgt := 12) hx hb dX6_forgetsAll_67 (by decide) ?_
  refine lv_iload hx hb dX6_forgetsAll_12 (lv_at hl 0 rfl) ?_
  refine lv_bipush (v := 24) hx hb dX6_forgetsAll_14 (by decide) ?_
  refine lv_icmp_ge (tgt := 70) hx hb dX6_forgetsAll_16 (by decide) (fun c9 => absurd c9 (by decide)) (fun c9 => ?_)
  refine lv_aload_n hx hb dX6_forgetsAll_19 rfl (lv_at hl 3 rfl) ?_
  refine va_get (D := D) (ci := 10) (v := .ref pr) (C := RX6) (T := TX6) (N := 12) hx hb hts hiRX6 hown hK hP 0 rfl rfl 6 (by decide) (hts (.fieldLink RX6 29 "TowerliftryModel" "promises" "[[LTowerliftryModel$Car;") (by decide +kernel)) (fun _ h9 => h9) rfl dX6_forgetsAll_20 ?_
  refine lv_iload_n hx hb dX6_forgetsAll_23 rfl (lv_at hl 1 rfl) ?_
  refine tw_aldA hx hb hK hP 1 0 rfl rfl (by unfold vp_in; decide) dX6_forgetsAll_24 ?_
  rw [tw_two0]
  refine W.eq (g2 := F0 m 25 ls [.ref r0]) rfl ?_
  refine lv_iload hx hb dX6_forgetsAll_25 (lv_at hl 0 rfl) ?_
  refine va_aldq hx hb hK hP 2 1 rfl rfl (by unfold vp_in; decide) dX6_forgetsAll_27 ?_
  refine W.eq (g2 := F0 m 28 ls [.null]) rfl ?_
  refine lv_ifnullN (tgt := 64) hx hb dX6_forgetsAll_28 (by decide) ?_
  refine lv_iinc (v := 19) (lv' := [(4, .int 19), (3, .int 0), (2, .int 0), (0, .ref mm), (1, .null)]) hx hb dX6_forgetsAll_64 hl (k := 0) rfl (by decide) (by decide) rfl (fun ls hl => ?_)
  refine lv_goto (tgt := 12) hx hb dX6_forgetsAll_67 (by decide) ?_
  refine lv_iload hx hb dX6_forgetsAll_12 (lv_at hl 0 rfl) ?_
  refine lv_bipush (v := 24) hx hb dX6_forgetsAll_14 (by decide) ?_
  refine lv_icmp_ge (tgt := 70) hx hb dX6_forgetsAll_16 (by decide) (fun c9 => absurd c9 (by decide)) (fun c9 => ?_)
  refine lv_aload_n hx hb dX6_forgetsAll_19 rfl (lv_at hl 3 rfl) ?_
  refine va_get (D := D) (ci := 10) (v := .ref pr) (C := RX6) (T := TX6) (N := 12) hx hb hts hiRX6 hown hK hP 0 rfl rfl 6 (by decide) (hts (.fieldLink RX6 29 "TowerliftryModel" "promises" "[[LTowerliftryModel$Car;") (by decide +kernel)) (fun _ h9 => h9) rfl dX6_forgetsAll_20 ?_
  refine lv_iload_n hx hb dX6_forgetsAll_23 rfl (lv_at hl 1 rfl) ?_
  refine tw_aldA hx hb hK hP 1 0 rfl rfl (by unfold vp_in; decide) dX6_forgetsAll_24 ?_
  rw [tw_two0]
  refine W.eq (g2 := F0 m 25 ls [.ref r0]) rfl ?_
  refine lv_iload hx hb dX6_forgetsAll_25 (lv_at hl 0 rfl) ?_
  refine va_aldq hx hb hK hP 2 1 rfl rfl (by unfold vp_in; decide) dX6_forgetsAll_27 ?_
  refine W.eq (g2 := F0 m 28 ls [.null]) rfl ?_
  refine lv_ifnullN (tgt := 64) hx hb dX6_forgetsAll_28 (by decide) ?_
  refine lv_iinc (v := 20) (lv' := [(4, .int 20), (3, .int 0), (2, .int 0), (0, .ref mm), (1, .null)]) hx hb dX6_forgetsAll_64 hl (k := 0) rfl (by decide) (by decide) rfl (fun ls hl => ?_)
  refine lv_goto (tgt := 12) hx hb dX6_forgetsAll_67 (by decide) ?_
  refine lv_iload hx hb dX6_forgetsAll_12 (lv_at hl 0 rfl) ?_
  refine lv_bipush (v := 24) hx hb dX6_forgetsAll_14 (by decide) ?_
  refine lv_icmp_ge (tgt := 70) hx hb dX6_forgetsAll_16 (by decide) (fun c9 => absurd c9 (by decide)) (fun c9 => ?_)
  refine lv_aload_n hx hb dX6_forgetsAll_19 rfl (lv_at hl 3 rfl) ?_
  refine va_get (D := D) (ci := 10) (v := .ref pr) (C := RX6) (T := TX6) (N := 12) hx hb hts hiRX6 hown hK hP 0 rfl rfl 6 (by decide) (hts (.fieldLink RX6 29 "TowerliftryModel" "promises" "[[LTowerliftryModel$Car;") (by decide +kernel)) (fun _ h9 => h9) rfl dX6_forgetsAll_20 ?_
  refine lv_iload_n hx hb dX6_forgetsAll_23 rfl (lv_at hl 1 rfl) ?_
  refine tw_aldA hx hb hK hP 1 0 rfl rfl (by unfold vp_in; decide) dX6_forgetsAll_24 ?_
  rw [tw_two0]
  refine W.eq (g2 := F0 m 25 ls [.ref r0]) rfl ?_
  refine lv_iload hx hb dX6_forgetsAll_25 (lv_at hl 0 rfl) ?_
  refine va_aldq hx hb hK hP 2 1 rfl rfl (by unfold vp_in; decide) dX6_forgetsAll_27 ?_
  refine W.eq (g2 := F0 m 28 ls [.null]) rfl ?_
  refine lv_ifnullN (tgt := 64) hx hb dX6_forgetsAll_28 (by decide) ?_
  refine lv_iinc (v := 21) (lv' := [(4, .int 21), (3, .int 0), (2, .int 0), (0, .ref mm), (1, .null)]) hx hb dX6_forgetsAll_64 hl (k := 0) rfl (by decide) (by decide) rfl (fun ls hl => ?_)
  refine lv_goto (tgt := 12) hx hb dX6_forgetsAll_67 (by decide) ?_
  refine lv_iload hx hb dX6_forgetsAll_12 (lv_at hl 0 rfl) ?_
  refine lv_bipush (v := 24) hx hb dX6_forgetsAll_14 (by decide) ?_
  refine lv_icmp_ge (tgt := 70) hx hb dX6_forgetsAll_16 (by decide) (fun c9 => absurd c9 (by decide)) (fun c9 => ?_)
  refine lv_aload_n hx hb dX6_forgetsAll_19 rfl (lv_at hl 3 rfl) ?_
  refine va_get (D := D) (ci := 10) (v := .ref pr) (C := RX6) (T := TX6) (N := 12) hx hb hts hiRX6 hown hK hP 0 rfl rfl 6 (by decide) (hts (.fieldLink RX6 29 "TowerliftryModel" "promises" "[[LTowerliftryModel$Car;") (by decide +kernel)) (fun _ h9 => h9) rfl dX6_forgetsAll_20 ?_
  refine lv_iload_n hx hb dX6_forgetsAll_23 rfl (lv_at hl 1 rfl) ?_
  refine tw_aldA hx hb hK hP 1 0 rfl rfl (by unfold vp_in; decide) dX6_forgetsAll_24 ?_
  rw [tw_two0]
  refine W.eq (g2 := F0 m 25 ls [.ref r0]) rfl ?_
  refine lv_iload hx hb dX6_forgetsAll_25 (lv_at hl 0 rfl) ?_
  refine va_aldq hx hb hK hP 2 1 rfl rfl (by unfold vp_in; decide) dX6_forgetsAll_27 ?_
  refine W.eq (g2 := F0 m 28 ls [.null]) rfl ?_
  refine lv_ifnullN (tgt := 64) hx hb dX6_forgetsAll_28 (by decide) ?_
  refine lv_iinc (v := 22) (lv' := [(4, .int 22), (3, .int 0), (2, .int 0), (0, .ref mm), (1, .null)]) hx hb dX6_forgetsAll_64 hl (k := 0) rfl (by decide) (by decide) rfl (fun ls hl => ?_)
  refine lv_goto (tgt := 12) hx hb dX6_forgetsAll_67 (by decide) ?_
  refine lv_iload hx hb dX6_forgetsAll_12 (lv_at hl 0 rfl) ?_
  refine lv_bipush (v := 24) hx hb dX6_forgetsAll_14 (by decide) ?_
  refine lv_icmp_ge (tgt := 70) hx hb dX6_forgetsAll_16 (by decide) (fun c9 => absurd c9 (by decide)) (fun c9 => ?_)
  refine lv_aload_n hx hb dX6_forgetsAll_19 rfl (lv_at hl 3 rfl) ?_
  refine va_get (D := D) (ci := 10) (v := .ref pr) (C := RX6) (T := TX6) (N := 12) hx hb hts hiRX6 hown hK hP 0 rfl rfl 6 (by decide) (hts (.fieldLink RX6 29 "TowerliftryModel" "promises" "[[LTowerliftryModel$Car;") (by decide +kernel)) (fun _ h9 => h9) rfl dX6_forgetsAll_20 ?_
  refine lv_iload_n hx hb dX6_forgetsAll_23 rfl (lv_at hl 1 rfl) ?_
  refine tw_aldA hx hb hK hP 1 0 rfl rfl (by unfold vp_in; decide) dX6_forgetsAll_24 ?_
  rw [tw_two0]
  refine W.eq (g2 := F0 m 25 ls [.ref r0]) rfl ?_
  refine lv_iload hx hb dX6_forgetsAll_25 (lv_at hl 0 rfl) ?_
  refine va_aldq hx hb hK hP 2 1 rfl rfl (by unfold vp_in; decide) dX6_forgetsAll_27 ?_
  refine W.eq (g2 := F0 m 28 ls [.null]) rfl ?_
  refine lv_ifnullN (tgt := 64) hx hb dX6_forgetsAll_28 (by decide) ?_
  refine lv_iinc (v := 23) (lv' := [(4, .int 23), (3, .int 0), (2, .int 0), (0, .ref mm), (1, .null)]) hx hb dX6_forgetsAll_64 hl (k := 0) rfl (by decide) (by decide) rfl (fun ls hl => ?_)
  refine lv_goto (tgt := 12) hx hb dX6_forgetsAll_67 (by decide) ?_
  refine lv_iload hx hb dX6_forgetsAll_12 (lv_at hl 0 rfl) ?_
  refine lv_bipush (v := 24) hx hb dX6_forgetsAll_14 (by decide) ?_
  refine lv_icmp_ge (tgt := 70) hx hb dX6_forgetsAll_16 (by decide) (fun c9 => absurd c9 (by decide)) (fun c9 => ?_)
  refine lv_aload_n hx hb dX6_forgetsAll_19 rfl (lv_at hl 3 rfl) ?_
  refine va_get (D := D) (ci := 10) (v := .ref pr) (C := RX6) (T := TX6) (N := 12) hx hb hts hiRX6 hown hK hP 0 rfl rfl 6 (by decide) (hts (.fieldLink RX6 29 "TowerliftryModel" "promises" "[[LTowerliftryModel$Car;") (by decide +kernel)) (fun _ h9 => h9) rfl dX6_forgetsAll_20 ?_
  refine lv_iload_n hx hb dX6_forgetsAll_23 rfl (lv_at hl 1 rfl) ?_
  refine tw_aldA hx hb hK hP 1 0 rfl rfl (by unfold vp_in; decide) dX6_forgetsAll_24 ?_
  rw [tw_two0]
  refine W.eq (g2 := F0 m 25 ls [.ref r0]) rfl ?_
  refine lv_iload hx hb dX6_forgetsAll_25 (lv_at hl 0 rfl) ?_
  refine va_aldq hx hb hK hP 2 1 rfl rfl (by unfold vp_in; decide) dX6_forgetsAll_27 ?_
  refine W.eq (g2 := F0 m 28 ls [.null]) rfl ?_
  refine lv_ifnullN (tgt := 64) hx hb dX6_forgetsAll_28 (by decide) ?_
  refine lv_iinc (v := 24) (lv' := [(4, .int 24), (3, .int 0), (2, .int 0), (0, .ref mm), (1, .null)]) hx hb dX6_forgetsAll_64 hl (k := 0) rfl (by decide) (by decide) rfl (fun ls hl => ?_)
  refine lv_goto (tgt := 12) hx hb dX6_forgetsAll_67 (by decide) ?_
  refine lv_iload hx hb dX6_forgetsAll_12 (lv_at hl 0 rfl) ?_
  refine lv_bipush (v := 24) hx hb dX6_forgetsAll_14 (by decide) ?_
  refine lv_icmp_ge (tgt := 70) hx hb dX6_forgetsAll_16 (by decide) (fun c9 => ?_) (fun c9 => absurd c9 (by decide))
  refine lv_iinc (v := 1) (lv' := [(3, .int 1), (4, .int 24), (2, .int 0), (0, .ref mm), (1, .null)]) hx hb dX6_forgetsAll_70 hl (k := 1) rfl (by decide) (by decide) rfl (fun ls hl => ?_)
  refine lv_goto (tgt := 4) hx hb dX6_forgetsAll_73 (by decide) ?_
  refine lv_iload_n hx hb dX6_forgetsAll_4 rfl (lv_at hl 0 rfl) ?_
  refine lv_iconst (v := 2) hx hb dX6_forgetsAll_5 (by decide) ?_
  refine lv_icmp_ge (tgt := 76) hx hb dX6_forgetsAll_6 (by decide) (fun c9 => absurd c9 (by decide)) (fun c9 => ?_)
  refine lv_iconst (v := 0) hx hb dX6_forgetsAll_9 (by decide) ?_
  refine lv_istore (lv' := [(4, .int 0), (3, .int 1), (2, .int 0), (0, .ref mm), (1, .null)]) hx hb dX6_forgetsAll_10 hl (by decide) rfl (fun ls hl => ?_)
  refine lv_iload hx hb dX6_forgetsAll_12 (lv_at hl 0 rfl) ?_
  refine lv_bipush (v := 24) hx hb dX6_forgetsAll_14 (by decide) ?_
  refine lv_icmp_ge (tgt := 70) hx hb dX6_forgetsAll_16 (by decide) (fun c9 => absurd c9 (by decide)) (fun c9 => ?_)
  refine lv_aload_n hx hb dX6_forgetsAll_19 rfl (lv_at hl 3 rfl) ?_
  refine va_get (D := D) (ci := 10) (v := .ref pr) (C := RX6) (T := TX6) (N := 12) hx hb hts hiRX6 hown hK hP 0 rfl rfl 6 (by decide) (hts (.fieldLink RX6 29 "TowerliftryModel" "promises" "[[LTowerliftryModel$Car;") (by decide +kernel)) (fun _ h9 => h9) rfl dX6_forgetsAll_20 ?_
  refine lv_iload_n hx hb dX6_forgetsAll_23 rfl (lv_at hl 1 rfl) ?_
  refine tw_aldA hx hb hK hP 1 0 rfl rfl (by unfold vp_in; decide) dX6_forgetsAll_24 ?_
  rw [tw_two1]
  refine W.eq (g2 := F0 m 25 ls [.ref r1]) rfl ?_
  refine lv_iload hx hb dX6_forgetsAll_25 (lv_at hl 0 rfl) ?_
  refine va_aldq hx hb hK hP 3 1 rfl rfl (by unfold vp_in; decide) dX6_forgetsAll_27 ?_
  refine W.eq (g2 := F0 m 28 ls [.null]) rfl ?_
  refine lv_ifnullN (tgt := 64) hx hb dX6_forgetsAll_28 (by decide) ?_
  refine lv_iinc (v := 1) (lv' := [(4, .int 1), (3, .int 1), (2, .int 0), (0, .ref mm), (1, .null)]) hx hb dX6_forgetsAll_64 hl (k := 0) rfl (by decide) (by decide) rfl (fun ls hl => ?_)
  refine lv_goto (tgt := 12) hx hb dX6_forgetsAll_67 (by decide) ?_
  refine lv_iload hx hb dX6_forgetsAll_12 (lv_at hl 0 rfl) ?_
  refine lv_bipush (v := 24) hx hb dX6_forgetsAll_14 (by decide) ?_
  refine lv_icmp_ge (tgt := 70) hx hb dX6_forgetsAll_16 (by decide) (fun c9 => absurd c9 (by decide)) (fun c9 => ?_)
  refine lv_aload_n hx hb dX6_forgetsAll_19 rfl (lv_at hl 3 rfl) ?_
  refine va_get (D := D) (ci := 10) (v := .ref pr) (C := RX6) (T := TX6) (N := 12) hx hb hts hiRX6 hown hK hP 0 rfl rfl 6 (by decide) (hts (.fieldLink RX6 29 "TowerliftryModel" "promises" "[[LTowerliftryModel$Car;") (by decide +kernel)) (fun _ h9 => h9) rfl dX6_forgetsAll_20 ?_
  refine lv_iload_n hx hb dX6_forgetsAll_23 rfl (lv_at hl 1 rfl) ?_
  refine tw_aldA hx hb hK hP 1 0 rfl rfl (by unfold vp_in; decide) dX6_forgetsAll_24 ?_
  rw [tw_two1]
  refine W.eq (g2 := F0 m 25 ls [.ref r1]) rfl ?_
  refine lv_iload hx hb dX6_forgetsAll_25 (lv_at hl 0 rfl) ?_
  refine va_aldq hx hb hK hP 3 1 rfl rfl (by unfold vp_in; decide) dX6_forgetsAll_27 ?_
  refine W.eq (g2 := F0 m 28 ls [.null]) rfl ?_
  refine lv_ifnullN (tgt := 64) hx hb dX6_forgetsAll_28 (by decide) ?_
  refine lv_iinc (v := 2) (lv' := [(4, .int 2), (3, .int 1), (2, .int 0), (0, .ref mm), (1, .null)]) hx hb dX6_forgetsAll_64 hl (k := 0) rfl (by decide) (by decide) rfl (fun ls hl => ?_)
  refine lv_goto (tgt := 12) hx hb dX6_forgetsAll_67 (by decide) ?_
  refine lv_iload hx hb dX6_forgetsAll_12 (lv_at hl 0 rfl) ?_
  refine lv_bipush (v := 24) hx hb dX6_forgetsAll_14 (by decide) ?_
  refine lv_icmp_ge (tgt := 70) hx hb dX6_forgetsAll_16 (by decide) (fun c9 => absurd c9 (by decide)) (fun c9 => ?_)
  refine lv_aload_n hx hb dX6_forgetsAll_19 rfl (lv_at hl 3 rfl) ?_
  refine va_get (D := D) (ci := 10) (v := .ref pr) (C := RX6) (T := TX6) (N := 12) hx hb hts hiRX6 hown hK hP 0 rfl rfl 6 (by decide) (hts (.fieldLink RX6 29 "TowerliftryModel" "promises" "[[LTowerliftryModel$Car;") (by decide +kernel)) (fun _ h9 => h9) rfl dX6_forgetsAll_20 ?_
  refine lv_iload_n hx hb dX6_forgetsAll_23 rfl (lv_at hl 1 rfl) ?_
  refine tw_aldA hx hb hK hP 1 0 rfl rfl (by unfold vp_in; decide) dX6_forgetsAll_24 ?_
  rw [tw_two1]
  refine W.eq (g2 := F0 m 25 ls [.ref r1]) rfl ?_
  refine lv_iload hx hb dX6_forgetsAll_25 (lv_at hl 0 rfl) ?_
  refine va_aldq hx hb hK hP 3 1 rfl rfl (by unfold vp_in; decide) dX6_forgetsAll_27 ?_
  refine W.eq (g2 := F0 m 28 ls [.null]) rfl ?_
  refine lv_ifnullN (tgt := 64) hx hb dX6_forgetsAll_28 (by decide) ?_
  refine lv_iinc (v := 3) (lv' := [(4, .int 3), (3, .int 1), (2, .int 0), (0, .ref mm), (1, .null)]) hx hb dX6_forgetsAll_64 hl (k := 0) rfl (by decide) (by decide) rfl (fun ls hl => ?_)
  refine lv_goto (tgt := 12) hx hb dX6_forgetsAll_67 (by decide) ?_
  refine lv_iload hx hb dX6_forgetsAll_12 (lv_at hl 0 rfl) ?_
  refine lv_bipush (v := 24) hx hb dX6_forgetsAll_14 (by decide) ?_
  refine lv_icmp_ge (tgt := 70) hx hb dX6_forgetsAll_16 (by decide) (fun c9 => absurd c9 (by decide)) (fun c9 => ?_)
  refine lv_aload_n hx hb dX6_forgetsAll_19 rfl (lv_at hl 3 rfl) ?_
  refine va_get (D := D) (ci := 10) (v := .ref pr) (C := RX6) (T := TX6) (N := 12) hx hb hts hiRX6 hown hK hP 0 rfl rfl 6 (by decide) (hts (.fieldLink RX6 29 "TowerliftryModel" "promises" "[[LTowerliftryModel$Car;") (by decide +kernel)) (fun _ h9 => h9) rfl dX6_forgetsAll_20 ?_
  refine lv_iload_n hx hb dX6_forgetsAll_23 rfl (lv_at hl 1 rfl) ?_
  refine tw_aldA hx hb hK hP 1 0 rfl rfl (by unfold vp_in; decide) dX6_forgetsAll_24 ?_
  rw [tw_two1]
  refine W.eq (g2 := F0 m 25 ls [.ref r1]) rfl ?_
  refine lv_iload hx hb dX6_forgetsAll_25 (lv_at hl 0 rfl) ?_
  refine va_aldq hx hb hK hP 3 1 rfl rfl (by unfold vp_in; decide) dX6_forgetsAll_27 ?_
  refine W.eq (g2 := F0 m 28 ls [.null]) rfl ?_
  refine lv_ifnullN (tgt := 64) hx hb dX6_forgetsAll_28 (by decide) ?_
  refine lv_iinc (v := 4) (lv' := [(4, .int 4), (3, .int 1), (2, .int 0), (0, .ref mm), (1, .null)]) hx hb dX6_forgetsAll_64 hl (k := 0) rfl (by decide) (by decide) rfl (fun ls hl => ?_)
  refine lv_goto (tgt := 12) hx hb dX6_forgetsAll_67 (by decide) ?_
  refine lv_iload hx hb dX6_forgetsAll_12 (lv_at hl 0 rfl) ?_
  refine lv_bipush (v := 24) hx hb dX6_forgetsAll_14 (by decide) ?_
  refine lv_icmp_ge (tgt := 70) hx hb dX6_forgetsAll_16 (by decide) (fun c9 => absurd c9 (by decide)) (fun c9 => ?_)
  refine lv_aload_n hx hb dX6_forgetsAll_19 rfl (lv_at hl 3 rfl) ?_
  refine va_get (D := D) (ci := 10) (v := .ref pr) (C := RX6) (T := TX6) (N := 12) hx hb hts hiRX6 hown hK hP 0 rfl rfl 6 (by decide) (hts (.fieldLink RX6 29 "TowerliftryModel" "promises" "[[LTowerliftryModel$Car;") (by decide +kernel)) (fun _ h9 => h9) rfl dX6_forgetsAll_20 ?_
  refine lv_iload_n hx hb dX6_forgetsAll_23 rfl (lv_at hl 1 rfl) ?_
  refine tw_aldA hx hb hK hP 1 0 rfl rfl (by unfold vp_in; decide) dX6_forgetsAll_24 ?_
  rw [tw_two1]
  refine W.eq (g2 := F0 m 25 ls [.ref r1]) rfl ?_
  refine lv_iload hx hb dX6_forgetsAll_25 (lv_at hl 0 rfl) ?_
  refine va_aldq hx hb hK hP 3 1 rfl rfl (by unfold vp_in; decide) dX6_forgetsAll_27 ?_
  refine W.eq (g2 := F0 m 28 ls [.null]) rfl ?_
  refine lv_ifnullN (tgt := 64) hx hb dX6_forgetsAll_28 (by decide) ?_
  refine lv_iinc (v := 5) (lv' := [(4, .int 5), (3, .int 1), (2, .int 0), (0, .ref mm), (1, .null)]) hx hb dX6_forgetsAll_64 hl (k := 0) rfl (by decide) (by decide) rfl (fun ls hl => ?_)
  refine lv_goto (tgt := 12) hx hb dX6_forgetsAll_67 (by decide) ?_
  refine lv_iload hx hb dX6_forgetsAll_12 (lv_at hl 0 rfl) ?_
  refine lv_bipush (v := 24) hx hb dX6_forgetsAll_14 (by decide) ?_
  refine lv_icmp_ge (tgt := 70) hx hb dX6_forgetsAll_16 (by decide) (fun c9 => absurd c9 (by decide)) (fun c9 => ?_)
  refine lv_aload_n hx hb dX6_forgetsAll_19 rfl (lv_at hl 3 rfl) ?_
  refine va_get (D := D) (ci := 10) (v := .ref pr) (C := RX6) (T := TX6) (N := 12) hx hb hts hiRX6 hown hK hP 0 rfl rfl 6 (by decide) (hts (.fieldLink RX6 29 "TowerliftryModel" "promises" "[[LTowerliftryModel$Car;") (by decide +kernel)) (fun _ h9 => h9) rfl dX6_forgetsAll_20 ?_
  refine lv_iload_n hx hb dX6_forgetsAll_23 rfl (lv_at hl 1 rfl) ?_
  refine tw_aldA hx hb hK hP 1 0 rfl rfl (by unfold vp_in; decide) dX6_forgetsAll_24 ?_
  rw [tw_two1]
  refine W.eq (g2 := F0 m 25 ls [.ref r1]) rfl ?_
  refine lv_iload hx hb dX6_forgetsAll_25 (lv_at hl 0 rfl) ?_
  refine va_aldq hx hb hK hP 3 1 rfl rfl (by unfold vp_in; decide) dX6_forgetsAll_27 ?_
  refine W.eq (g2 := F0 m 28 ls [.null]) rfl ?_
  refine lv_ifnullN (tgt := 64) hx hb dX6_forgetsAll_28 (by decide) ?_
  refine lv_iinc (v := 6) (lv' := [(4, .int 6), (3, .int 1), (2, .int 0), (0, .ref mm), (1, .null)]) hx hb dX6_forgetsAll_64 hl (k := 0) rfl (by decide) (by decide) rfl (fun ls hl => ?_)
  refine lv_goto (tgt := 12) hx hb dX6_forgetsAll_67 (by decide) ?_
  refine lv_iload hx hb dX6_forgetsAll_12 (lv_at hl 0 rfl) ?_
  refine lv_bipush (v := 24) hx hb dX6_forgetsAll_14 (by decide) ?_
  refine lv_icmp_ge (tgt := 70) hx hb dX6_forgetsAll_16 (by decide) (fun c9 => absurd c9 (by decide)) (fun c9 => ?_)
  refine lv_aload_n hx hb dX6_forgetsAll_19 rfl (lv_at hl 3 rfl) ?_
  refine va_get (D := D) (ci := 10) (v := .ref pr) (C := RX6) (T := TX6) (N := 12) hx hb hts hiRX6 hown hK hP 0 rfl rfl 6 (by decide) (hts (.fieldLink RX6 29 "TowerliftryModel" "promises" "[[LTowerliftryModel$Car;") (by decide +kernel)) (fun _ h9 => h9) rfl dX6_forgetsAll_20 ?_
  refine lv_iload_n hx hb dX6_forgetsAll_23 rfl (lv_at hl 1 rfl) ?_
  refine tw_aldA hx hb hK hP 1 0 rfl rfl (by unfold vp_in; decide) dX6_forgetsAll_24 ?_
  rw [tw_two1]
  refine W.eq (g2 := F0 m 25 ls [.ref r1]) rfl ?_
  refine lv_iload hx hb dX6_forgetsAll_25 (lv_at hl 0 rfl) ?_
  refine va_aldq hx hb hK hP 3 1 rfl rfl (by unfold vp_in; decide) dX6_forgetsAll_27 ?_
  refine W.eq (g2 := F0 m 28 ls [.null]) rfl ?_
  refine lv_ifnullN (tgt := 64) hx hb dX6_forgetsAll_28 (by decide) ?_
  refine lv_iinc (v := 7) (lv' := [(4, .int 7), (3, .int 1), (2, .int 0), (0, .ref mm), (1, .null)]) hx hb dX6_forgetsAll_64 hl (k := 0) rfl (by decide) (by decide) rfl (fun ls hl => ?_)
  refine lv_goto (tgt := 12) hx hb dX6_forgetsAll_67 (by decide) ?_
  refine lv_iload hx hb dX6_forgetsAll_12 (lv_at hl 0 rfl) ?_
  refine lv_bipush (v := 24) hx hb dX6_forgetsAll_14 (by decide) ?_
  refine lv_icmp_ge (tgt := 70) hx hb dX6_forgetsAll_16 (by decide) (fun c9 => absurd c9 (by decide)) (fun c9 => ?_)
  refine lv_aload_n hx hb dX6_forgetsAll_19 rfl (lv_at hl 3 rfl) ?_
  refine va_get (D := D) (ci := 10) (v := .ref pr) (C := RX6) (T := TX6) (N := 12) hx hb hts hiRX6 hown hK hP 0 rfl rfl 6 (by decide) (hts (.fieldLink RX6 29 "TowerliftryModel" "promises" "[[LTowerliftryModel$Car;") (by decide +kernel)) (fun _ h9 => h9) rfl dX6_forgetsAll_20 ?_
  refine lv_iload_n hx hb dX6_forgetsAll_23 rfl (lv_at hl 1 rfl) ?_
  refine tw_aldA hx hb hK hP 1 0 rfl rfl (by unfold vp_in; decide) dX6_forgetsAll_24 ?_
  rw [tw_two1]
  refine W.eq (g2 := F0 m 25 ls [.ref r1]) rfl ?_
  refine lv_iload hx hb dX6_forgetsAll_25 (lv_at hl 0 rfl) ?_
  refine va_aldq hx hb hK hP 3 1 rfl rfl (by unfold vp_in; decide) dX6_forgetsAll_27 ?_
  refine W.eq (g2 := F0 m 28 ls [.null]) rfl ?_
  refine lv_ifnullN (tgt := 64) hx hb dX6_forgetsAll_28 (by decide) ?_
  refine lv_iinc (v := 8) (lv' := [(4, .int 8), (3, .int 1), (2, .int 0), (0, .ref mm), (1, .null)]) hx hb dX6_forgetsAll_64 hl (k := 0) rfl (by decide) (by decide) rfl (fun ls hl => ?_)
  refine lv_goto (tgt := 12) hx hb dX6_forgetsAll_67 (by decide) ?_
  refine lv_iload hx hb dX6_forgetsAll_12 (lv_at hl 0 rfl) ?_
  refine lv_bipush (v := 24) hx hb dX6_forgetsAll_14 (by decide) ?_
  refine lv_icmp_ge (tgt := 70) hx hb dX6_forgetsAll_16 (by decide) (fun c9 => absurd c9 (by decide)) (fun c9 => ?_)
  refine lv_aload_n hx hb dX6_forgetsAll_19 rfl (lv_at hl 3 rfl) ?_
  refine va_get (D := D) (ci := 10) (v := .ref pr) (C := RX6) (T := TX6) (N := 12) hx hb hts hiRX6 hown hK hP 0 rfl rfl 6 (by decide) (hts (.fieldLink RX6 29 "TowerliftryModel" "promises" "[[LTowerliftryModel$Car;") (by decide +kernel)) (fun _ h9 => h9) rfl dX6_forgetsAll_20 ?_
  refine lv_iload_n hx hb dX6_forgetsAll_23 rfl (lv_at hl 1 rfl) ?_
  refine tw_aldA hx hb hK hP 1 0 rfl rfl (by unfold vp_in; decide) dX6_forgetsAll_24 ?_
  rw [tw_two1]
  refine W.eq (g2 := F0 m 25 ls [.ref r1]) rfl ?_
  refine lv_iload hx hb dX6_forgetsAll_25 (lv_at hl 0 rfl) ?_
  refine va_aldq hx hb hK hP 3 1 rfl rfl (by unfold vp_in; decide) dX6_forgetsAll_27 ?_
  refine W.eq (g2 := F0 m 28 ls [.null]) rfl ?_
  refine lv_ifnullN (tgt := 64) hx hb dX6_forgetsAll_28 (by decide) ?_
  refine lv_iinc (v := 9) (lv' := [(4, .int 9), (3, .int 1), (2, .int 0), (0, .ref mm), (1, .null)]) hx hb dX6_forgetsAll_64 hl (k := 0) rfl (by decide) (by decide) rfl (fun ls hl => ?_)
  refine lv_goto (tgt := 12) hx hb dX6_forgetsAll_67 (by decide) ?_
  refine lv_iload hx hb dX6_forgetsAll_12 (lv_at hl 0 rfl) ?_
  refine lv_bipush (v := 24) hx hb dX6_forgetsAll_14 (by decide) ?_
  refine lv_icmp_ge (tgt := 70) hx hb dX6_forgetsAll_16 (by decide) (fun c9 => absurd c9 (by decide)) (fun c9 => ?_)
  refine lv_aload_n hx hb dX6_forgetsAll_19 rfl (lv_at hl 3 rfl) ?_
  refine va_get (D := D) (ci := 10) (v := .ref pr) (C := RX6) (T := TX6) (N := 12) hx hb hts hiRX6 hown hK hP 0 rfl rfl 6 (by decide) (hts (.fieldLink RX6 29 "TowerliftryModel" "promises" "[[LTowerliftryModel$Car;") (by decide +kernel)) (fun _ h9 => h9) rfl dX6_forgetsAll_20 ?_
  refine lv_iload_n hx hb dX6_forgetsAll_23 rfl (lv_at hl 1 rfl) ?_
  refine tw_aldA hx hb hK hP 1 0 rfl rfl (by unfold vp_in; decide) dX6_forgetsAll_24 ?_
  rw [tw_two1]
  refine W.eq (g2 := F0 m 25 ls [.ref r1]) rfl ?_
  refine lv_iload hx hb dX6_forgetsAll_25 (lv_at hl 0 rfl) ?_
  refine va_aldq hx hb hK hP 3 1 rfl rfl (by unfold vp_in; decide) dX6_forgetsAll_27 ?_
  refine W.eq (g2 := F0 m 28 ls [.null]) rfl ?_
  refine lv_ifnullN (tgt := 64) hx hb dX6_forgetsAll_28 (by decide) ?_
  refine lv_iinc (v := 10) (lv' := [(4, .int 10), (3, .int 1), (2, .int 0), (0, .ref mm), (1, .null)]) hx hb dX6_forgetsAll_64 hl (k := 0) rfl (by decide) (by decide) rfl (fun ls hl => ?_)
  refine lv_goto (tgt := 12) hx hb dX6_forgetsAll_67 (by decide) ?_
  refine lv_iload hx hb dX6_forgetsAll_12 (lv_at hl 0 rfl) ?_
  refine lv_bipush (v := 24) hx hb dX6_forgetsAll_14 (by decide) ?_
  refine lv_icmp_ge (tgt := 70) hx hb dX6_forgetsAll_16 (by decide) (fun c9 => absurd c9 (by decide)) (fun c9 => ?_)
  refine lv_aload_n hx hb dX6_forgetsAll_19 rfl (lv_at hl 3 rfl) ?_
  refine va_get (D := D) (ci := 10) (v := .ref pr) (C := RX6) (T := TX6) (N := 12) hx hb hts hiRX6 hown hK hP 0 rfl rfl 6 (by decide) (hts (.fieldLink RX6 29 "TowerliftryModel" "promises" "[[LTowerliftryModel$Car;") (by decide +kernel)) (fun _ h9 => h9) rfl dX6_forgetsAll_20 ?_
  refine lv_iload_n hx hb dX6_forgetsAll_23 rfl (lv_at hl 1 rfl) ?_
  refine tw_aldA hx hb hK hP 1 0 rfl rfl (by unfold vp_in; decide) dX6_forgetsAll_24 ?_
  rw [tw_two1]
  refine W.eq (g2 := F0 m 25 ls [.ref r1]) rfl ?_
  refine lv_iload hx hb dX6_forgetsAll_25 (lv_at hl 0 rfl) ?_
  refine va_aldq hx hb hK hP 3 1 rfl rfl (by unfold vp_in; decide) dX6_forgetsAll_27 ?_
  refine W.eq (g2 := F0 m 28 ls [.null]) rfl ?_
  refine lv_ifnullN (tgt := 64) hx hb dX6_forgetsAll_28 (by decide) ?_
  refine lv_iinc (v := 11) (lv' := [(4, .int 11), (3, .int 1), (2, .int 0), (0, .ref mm), (1, .null)]) hx hb dX6_forgetsAll_64 hl (k := 0) rfl (by decide) (by decide) rfl (fun ls hl => ?_)
  refine lv_goto (tgt := 12) hx hb dX6_forgetsAll_67 (by decide) ?_
  refine lv_iload hx hb dX6_forgetsAll_12 (lv_at hl 0 rfl) ?_
  refine lv_bipush (v := 24) hx hb dX6_forgetsAll_14 (by decide) ?_
  refine lv_icmp_ge (tgt := 70) hx hb dX6_forgetsAll_16 (by decide) (fun c9 => absurd c9 (by decide)) (fun c9 => ?_)
  refine lv_aload_n hx hb dX6_forgetsAll_19 rfl (lv_at hl 3 rfl) ?_
  refine va_get (D := D) (ci := 10) (v := .ref pr) (C := RX6) (T := TX6) (N := 12) hx hb hts hiRX6 hown hK hP 0 rfl rfl 6 (by decide) (hts (.fieldLink RX6 29 "TowerliftryModel" "promises" "[[LTowerliftryModel$Car;") (by decide +kernel)) (fun _ h9 => h9) rfl dX6_forgetsAll_20 ?_
  refine lv_iload_n hx hb dX6_forgetsAll_23 rfl (lv_at hl 1 rfl) ?_
  refine tw_aldA hx hb hK hP 1 0 rfl rfl (by unfold vp_in; decide) dX6_forgetsAll_24 ?_
  rw [tw_two1]
  refine W.eq (g2 := F0 m 25 ls [.ref r1]) rfl ?_
  refine lv_iload hx hb dX6_forgetsAll_25 (lv_at hl 0 rfl) ?_
  refine va_aldq hx hb hK hP 3 1 rfl rfl (by unfold vp_in; decide) dX6_forgetsAll_27 ?_
  refine W.eq (g2 := F0 m 28 ls [.null]) rfl ?_
  refine lv_ifnullN (tgt := 64) hx hb dX6_forgetsAll_28 (by decide) ?_
  refine lv_iinc (v := 12) (lv' := [(4, .int 12), (3, .int 1), (2, .int 0), (0, .ref mm), (1, .null)]) hx hb dX6_forgetsAll_64 hl (k := 0) rfl (by decide) (by decide) rfl (fun ls hl => ?_)
  refine lv_goto (tgt := 12) hx hb dX6_forgetsAll_67 (by decide) ?_
  refine lv_iload hx hb dX6_forgetsAll_12 (lv_at hl 0 rfl) ?_
  refine lv_bipush (v := 24) hx hb dX6_forgetsAll_14 (by decide) ?_
  refine lv_icmp_ge (tgt := 70) hx hb dX6_forgetsAll_16 (by decide) (fun c9 => absurd c9 (by decide)) (fun c9 => ?_)
  refine lv_aload_n hx hb dX6_forgetsAll_19 rfl (lv_at hl 3 rfl) ?_
  refine va_get (D := D) (ci := 10) (v := .ref pr) (C := RX6) (T := TX6) (N := 12) hx hb hts hiRX6 hown hK hP 0 rfl rfl 6 (by decide) (hts (.fieldLink RX6 29 "TowerliftryModel" "promises" "[[LTowerliftryModel$Car;") (by decide +kernel)) (fun _ h9 => h9) rfl dX6_forgetsAll_20 ?_
  refine lv_iload_n hx hb dX6_forgetsAll_23 rfl (lv_at hl 1 rfl) ?_
  refine tw_aldA hx hb hK hP 1 0 rfl rfl (by unfold vp_in; decide) dX6_forgetsAll_24 ?_
  rw [tw_two1]
  refine W.eq (g2 := F0 m 25 ls [.ref r1]) rfl ?_
  refine lv_iload hx hb dX6_forgetsAll_25 (lv_at hl 0 rfl) ?_
  refine va_aldq hx hb hK hP 3 1 rfl rfl (by unfold vp_in; decide) dX6_forgetsAll_27 ?_
  refine W.eq (g2 := F0 m 28 ls [.null]) rfl ?_
  refine lv_ifnullN (tgt := 64) hx hb dX6_forgetsAll_28 (by decide) ?_
  refine lv_iinc (v := 13) (lv' := [(4, .int 13), (3, .int 1), (2, .int 0), (0, .ref mm), (1, .null)]) hx hb dX6_forgetsAll_64 hl (k := 0) rfl (by decide) (by decide) rfl (fun ls hl => ?_)
  refine lv_goto (tgt := 12) hx hb dX6_forgetsAll_67 (by decide) ?_
  refine lv_iload hx hb dX6_forgetsAll_12 (lv_at hl 0 rfl) ?_
  refine lv_bipush (v := 24) hx hb dX6_forgetsAll_14 (by decide) ?_
  refine lv_icmp_ge (tgt := 70) hx hb dX6_forgetsAll_16 (by decide) (fun c9 => absurd c9 (by decide)) (fun c9 => ?_)
  refine lv_aload_n hx hb dX6_forgetsAll_19 rfl (lv_at hl 3 rfl) ?_
  refine va_get (D := D) (ci := 10) (v := .ref pr) (C := RX6) (T := TX6) (N := 12) hx hb hts hiRX6 hown hK hP 0 rfl rfl 6 (by decide) (hts (.fieldLink RX6 29 "TowerliftryModel" "promises" "[[LTowerliftryModel$Car;") (by decide +kernel)) (fun _ h9 => h9) rfl dX6_forgetsAll_20 ?_
  refine lv_iload_n hx hb dX6_forgetsAll_23 rfl (lv_at hl 1 rfl) ?_
  refine tw_aldA hx hb hK hP 1 0 rfl rfl (by unfold vp_in; decide) dX6_forgetsAll_24 ?_
  rw [tw_two1]
  refine W.eq (g2 := F0 m 25 ls [.ref r1]) rfl ?_
  refine lv_iload hx hb dX6_forgetsAll_25 (lv_at hl 0 rfl) ?_
  refine va_aldq hx hb hK hP 3 1 rfl rfl (by unfold vp_in; decide) dX6_forgetsAll_27 ?_
  refine W.eq (g2 := F0 m 28 ls [.null]) rfl ?_
  refine lv_ifnullN (tgt := 64) hx hb dX6_forgetsAll_28 (by decide) ?_
  refine lv_iinc (v := 14) (lv' := [(4, .int 14), (3, .int 1), (2, .int 0), (0, .ref mm), (1, .null)]) hx hb dX6_forgetsAll_64 hl (k := 0) rfl (by decide) (by decide) rfl (fun ls hl => ?_)
  refine lv_goto (tgt := 12) hx hb dX6_forgetsAll_67 (by decide) ?_
  refine lv_iload hx hb dX6_forgetsAll_12 (lv_at hl 0 rfl) ?_
  refine lv_bipush (v := 24) hx hb dX6_forgetsAll_14 (by decide) ?_
  refine lv_icmp_ge (tgt := 70) hx hb dX6_forgetsAll_16 (by decide) (fun c9 => absurd c9 (by decide)) (fun c9 => ?_)
  refine lv_aload_n hx hb dX6_forgetsAll_19 rfl (lv_at hl 3 rfl) ?_
  refine va_get (D := D) (ci := 10) (v := .ref pr) (C := RX6) (T := TX6) (N := 12) hx hb hts hiRX6 hown hK hP 0 rfl rfl 6 (by decide) (hts (.fieldLink RX6 29 "TowerliftryModel" "promises" "[[LTowerliftryModel$Car;") (by decide +kernel)) (fun _ h9 => h9) rfl dX6_forgetsAll_20 ?_
  refine lv_iload_n hx hb dX6_forgetsAll_23 rfl (lv_at hl 1 rfl) ?_
  refine tw_aldA hx hb hK hP 1 0 rfl rfl (by unfold vp_in; decide) dX6_forgetsAll_24 ?_
  rw [tw_two1]
  refine W.eq (g2 := F0 m 25 ls [.ref r1]) rfl ?_
  refine lv_iload hx hb dX6_forgetsAll_25 (lv_at hl 0 rfl) ?_
  refine va_aldq hx hb hK hP 3 1 rfl rfl (by unfold vp_in; decide) dX6_forgetsAll_27 ?_
  refine W.eq (g2 := F0 m 28 ls [.null]) rfl ?_
  refine lv_ifnullN (tgt := 64) hx hb dX6_forgetsAll_28 (by decide) ?_
  refine lv_iinc (v := 15) (lv' := [(4, .int 15), (3, .int 1), (2, .int 0), (0, .ref mm), (1, .null)]) hx hb dX6_forgetsAll_64 hl (k := 0) rfl (by decide) (by decide) rfl (fun ls hl => ?_)
  refine lv_goto (tgt := 12) hx hb dX6_forgetsAll_67 (by decide) ?_
  refine lv_iload hx hb dX6_forgetsAll_12 (lv_at hl 0 rfl) ?_
  refine lv_bipush (v := 24) hx hb dX6_forgetsAll_14 (by decide) ?_
  refine lv_icmp_ge (tgt := 70) hx hb dX6_forgetsAll_16 (by decide) (fun c9 => absurd c9 (by decide)) (fun c9 => ?_)
  refine lv_aload_n hx hb dX6_forgetsAll_19 rfl (lv_at hl 3 rfl) ?_
  refine va_get (D := D) (ci := 10) (v := .ref pr) (C := RX6) (T := TX6) (N := 12) hx hb hts hiRX6 hown hK hP 0 rfl rfl 6 (by decide) (hts (.fieldLink RX6 29 "TowerliftryModel" "promises" "[[LTowerliftryModel$Car;") (by decide +kernel)) (fun _ h9 => h9) rfl dX6_forgetsAll_20 ?_
  refine lv_iload_n hx hb dX6_forgetsAll_23 rfl (lv_at hl 1 rfl) ?_
  refine tw_aldA hx hb hK hP 1 0 rfl rfl (by unfold vp_in; decide) dX6_forgetsAll_24 ?_
  rw [tw_two1]
  refine W.eq (g2 := F0 m 25 ls [.ref r1]) rfl ?_
  refine lv_iload hx hb dX6_forgetsAll_25 (lv_at hl 0 rfl) ?_
  refine va_aldq hx hb hK hP 3 1 rfl rfl (by unfold vp_in; decide) dX6_forgetsAll_27 ?_
  refine W.eq (g2 := F0 m 28 ls [.null]) rfl ?_
  refine lv_ifnullN (tgt := 64) hx hb dX6_forgetsAll_28 (by decide) ?_
  refine lv_iinc (v := 16) (lv' := [(4, .int 16), (3, .int 1), (2, .int 0), (0, .ref mm), (1, .null)]) hx hb dX6_forgetsAll_64 hl (k := 0) rfl (by decide) (by decide) rfl (fun ls hl => ?_)
  refine lv_goto (tgt := 12) hx hb dX6_forgetsAll_67 (by decide) ?_
  refine lv_iload hx hb dX6_forgetsAll_12 (lv_at hl 0 rfl) ?_
  refine lv_bipush (v := 24) hx hb dX6_forgetsAll_14 (by decide) ?_
  refine lv_icmp_ge (tgt := 70) hx hb dX6_forgetsAll_16 (by decide) (fun c9 => absurd c9 (by decide)) (fun c9 => ?_)
  refine lv_aload_n hx hb dX6_forgetsAll_19 rfl (lv_at hl 3 rfl) ?_
  refine va_get (D := D) (ci := 10) (v := .ref pr) (C := RX6) (T := TX6) (N := 12) hx hb hts hiRX6 hown hK hP 0 rfl rfl 6 (by decide) (hts (.fieldLink RX6 29 "TowerliftryModel" "promises" "[[LTowerliftryModel$Car;") (by decide +kernel)) (fun _ h9 => h9) rfl dX6_forgetsAll_20 ?_
  refine lv_iload_n hx hb dX6_forgetsAll_23 rfl (lv_at hl 1 rfl) ?_
  refine tw_aldA hx hb hK hP 1 0 rfl rfl (by unfold vp_in; decide) dX6_forgetsAll_24 ?_
  rw [tw_two1]
  refine W.eq (g2 := F0 m 25 ls [.ref r1]) rfl ?_
  refine lv_iload hx hb dX6_forgetsAll_25 (lv_at hl 0 rfl) ?_
  refine va_aldq hx hb hK hP 3 1 rfl rfl (by unfold vp_in; decide) dX6_forgetsAll_27 ?_
  refine W.eq (g2 := F0 m 28 ls [.null]) rfl ?_
  refine lv_ifnullN (tgt := 64) hx hb dX6_forgetsAll_28 (by decide) ?_
  refine lv_iinc (v := 17) (lv' := [(4, .int 17), (3, .int 1), (2, .int 0), (0, .ref mm), (1, .null)]) hx hb dX6_forgetsAll_64 hl (k := 0) rfl (by decide) (by decide) rfl (fun ls hl => ?_)
  refine lv_goto (tgt := 12) hx hb dX6_forgetsAll_67 (by decide) ?_
  refine lv_iload hx hb dX6_forgetsAll_12 (lv_at hl 0 rfl) ?_
  refine lv_bipush (v := 24) hx hb dX6_forgetsAll_14 (by decide) ?_
  refine lv_icmp_ge (tgt := 70) hx hb dX6_forgetsAll_16 (by decide) (fun c9 => absurd c9 (by decide)) (fun c9 => ?_)
  refine lv_aload_n hx hb dX6_forgetsAll_19 rfl (lv_at hl 3 rfl) ?_
  refine va_get (D := D) (ci := 10) (v := .ref pr) (C := RX6) (T := TX6) (N := 12) hx hb hts hiRX6 hown hK hP 0 rfl rfl 6 (by decide) (hts (.fieldLink RX6 29 "TowerliftryModel" "promises" "[[LTowerliftryModel$Car;") (by decide +kernel)) (fun _ h9 => h9) rfl dX6_forgetsAll_20 ?_
  refine lv_iload_n hx hb dX6_forgetsAll_23 rfl (lv_at hl 1 rfl) ?_
  refine tw_aldA hx hb hK hP 1 0 rfl rfl (by unfold vp_in; decide) dX6_forgetsAll_24 ?_
  rw [tw_two1]
  refine W.eq (g2 := F0 m 25 ls [.ref r1]) rfl ?_
  refine lv_iload hx hb dX6_forgetsAll_25 (lv_at hl 0 rfl) ?_
  refine va_aldq hx hb hK hP 3 1 rfl rfl (by unfold vp_in; decide) dX6_forgetsAll_27 ?_
  refine W.eq (g2 := F0 m 28 ls [.null]) rfl ?_
  refine lv_ifnullN (tgt := 64) hx hb dX6_forgetsAll_28 (by decide) ?_
  refine lv_iinc (v := 18) (lv' := [(4, .int 18), (3, .int 1), (2, .int 0), (0, .ref mm), (1, .null)]) hx hb dX6_forgetsAll_64 hl (k := 0) rfl (by decide) (by decide) rfl (fun ls hl => ?_)
  refine lv_goto (tgt := 12) hx hb dX6_forgetsAll_67 (by decide) ?_
  refine lv_iload hx hb dX6_forgetsAll_12 (lv_at hl 0 rfl) ?_
  refine lv_bipush (v := 24) hx hb dX6_forgetsAll_14 (by decide) ?_
  refine lv_icmp_ge (tgt := 70) hx hb dX6_forgetsAll_16 (by decide) (fun c9 => absurd c9 (by decide)) (fun c9 => ?_)
  refine lv_aload_n hx hb dX6_forgetsAll_19 rfl (lv_at hl 3 rfl) ?_
  refine va_get (D := D) (ci := 10) (v := .ref pr) (C := RX6) (T := TX6) (N := 12) hx hb hts hiRX6 hown hK hP 0 rfl rfl 6 (by decide) (hts (.fieldLink RX6 29 "TowerliftryModel" "promises" "[[LTowerliftryModel$Car;") (by decide +kernel)) (fun _ h9 => h9) rfl dX6_forgetsAll_20 ?_
  refine lv_iload_n hx hb dX6_forgetsAll_23 rfl (lv_at hl 1 rfl) ?_
  refine tw_aldA hx hb hK hP 1 0 rfl rfl (by unfold vp_in; decide) dX6_forgetsAll_24 ?_
  rw [tw_two1]
  refine W.eq (g2 := F0 m 25 ls [.ref r1]) rfl ?_
  refine lv_iload hx hb dX6_forgetsAll_25 (lv_at hl 0 rfl) ?_
  refine va_aldq hx hb hK hP 3 1 rfl rfl (by unfold vp_in; decide) dX6_forgetsAll_27 ?_
  refine W.eq (g2 := F0 m 28 ls [.null]) rfl ?_
  refine lv_ifnullN (tgt := 64) hx hb dX6_forgetsAll_28 (by decide) ?_
  refine lv_iinc (v := 19) (lv' := [(4, .int 19), (3, .int 1), (2, .int 0), (0, .ref mm), (1, .null)]) hx hb dX6_forgetsAll_64 hl (k := 0) rfl (by decide) (by decide) rfl (fun ls hl => ?_)
  refine lv_goto (tgt := 12) hx hb dX6_forgetsAll_67 (by decide) ?_
  refine lv_iload hx hb dX6_forgetsAll_12 (lv_at hl 0 rfl) ?_
  refine lv_bipush (v := 24) hx hb dX6_forgetsAll_14 (by decide) ?_
  refine lv_icmp_ge (tgt := 70) hx hb dX6_forgetsAll_16 (by decide) (fun c9 => absurd c9 (by decide)) (fun c9 => ?_)
  refine lv_aload_n hx hb dX6_forgetsAll_19 rfl (lv_at hl 3 rfl) ?_
  refine va_get (D := D) (ci := 10) (v := .ref pr) (C := RX6) (T := TX6) (N := 12) hx hb hts hiRX6 hown hK hP 0 rfl rfl 6 (by decide) (hts (.fieldLink RX6 29 "TowerliftryModel" "promises" "[[LTowerliftryModel$Car;") (by decide +kernel)) (fun _ h9 => h9) rfl dX6_forgetsAll_20 ?_
  refine lv_iload_n hx hb dX6_forgetsAll_23 rfl (lv_at hl 1 rfl) ?_
  refine tw_aldA hx hb hK hP 1 0 rfl rfl (by unfold vp_in; decide) dX6_forgetsAll_24 ?_
  rw [tw_two1]
  refine W.eq (g2 := F0 m 25 ls [.ref r1]) rfl ?_
  refine lv_iload hx hb dX6_forgetsAll_25 (lv_at hl 0 rfl) ?_
  refine va_aldq hx hb hK hP 3 1 rfl rfl (by unfold vp_in; decide) dX6_forgetsAll_27 ?_
  refine W.eq (g2 := F0 m 28 ls [.null]) rfl ?_
  refine lv_ifnullN (tgt := 64) hx hb dX6_forgetsAll_28 (by decide) ?_
  refine lv_iinc (v := 20) (lv' := [(4, .int 20), (3, .int 1), (2, .int 0), (0, .ref mm), (1, .null)]) hx hb dX6_forgetsAll_64 hl (k := 0) rfl (by decide) (by decide) rfl (fun ls hl => ?_)
  refine lv_goto (tgt := 12) hx hb dX6_forgetsAll_67 (by decide) ?_
  refine lv_iload hx hb dX6_forgetsAll_12 (lv_at hl 0 rfl) ?_
  refine lv_bipush (v := 24) hx hb dX6_forgetsAll_14 (by decide) ?_
  refine lv_icmp_ge (tgt := 70) hx hb dX6_forgetsAll_16 (by decide) (fun c9 => absurd c9 (by decide)) (fun c9 => ?_)
  refine lv_aload_n hx hb dX6_forgetsAll_19 rfl (lv_at hl 3 rfl) ?_
  refine va_get (D := D) (ci := 10) (v := .ref pr) (C := RX6) (T := TX6) (N := 12) hx hb hts hiRX6 hown hK hP 0 rfl rfl 6 (by decide) (hts (.fieldLink RX6 29 "TowerliftryModel" "promises" "[[LTowerliftryModel$Car;") (by decide +kernel)) (fun _ h9 => h9) rfl dX6_forgetsAll_20 ?_
  refine lv_iload_n hx hb dX6_forgetsAll_23 rfl (lv_at hl 1 rfl) ?_
  refine tw_aldA hx hb hK hP 1 0 rfl rfl (by unfold vp_in; decide) dX6_forgetsAll_24 ?_
  rw [tw_two1]
  refine W.eq (g2 := F0 m 25 ls [.ref r1]) rfl ?_
  refine lv_iload hx hb dX6_forgetsAll_25 (lv_at hl 0 rfl) ?_
  refine va_aldq hx hb hK hP 3 1 rfl rfl (by unfold vp_in; decide) dX6_forgetsAll_27 ?_
  refine W.eq (g2 := F0 m 28 ls [.null]) rfl ?_
  refine lv_ifnullN (tgt := 64) hx hb dX6_forgetsAll_28 (by decide) ?_
  refine lv_iinc (v := 21) (lv' := [(4, .int 21), (3, .int 1), (2, .int 0), (0, .ref mm), (1, .null)]) hx hb dX6_forgetsAll_64 hl (k := 0) rfl (by decide) (by decide) rfl (fun ls hl => ?_)
  refine lv_goto (tgt := 12) hx hb dX6_forgetsAll_67 (by decide) ?_
  refine lv_iload hx hb dX6_forgetsAll_12 (lv_at hl 0 rfl) ?_
  refine lv_bipush (v := 24) hx hb dX6_forgetsAll_14 (by decide) ?_
  refine lv_icmp_ge (tgt := 70) hx hb dX6_forgetsAll_16 (by decide) (fun c9 => absurd c9 (by decide)) (fun c9 => ?_)
  refine lv_aload_n hx hb dX6_forgetsAll_19 rfl (lv_at hl 3 rfl) ?_
  refine va_get (D := D) (ci := 10) (v := .ref pr) (C := RX6) (T := TX6) (N := 12) hx hb hts hiRX6 hown hK hP 0 rfl rfl 6 (by decide) (hts (.fieldLink RX6 29 "TowerliftryModel" "promises" "[[LTowerliftryModel$Car;") (by decide +kernel)) (fun _ h9 => h9) rfl dX6_forgetsAll_20 ?_
  refine lv_iload_n hx hb dX6_forgetsAll_23 rfl (lv_at hl 1 rfl) ?_
  refine tw_aldA hx hb hK hP 1 0 rfl rfl (by unfold vp_in; decide) dX6_forgetsAll_24 ?_
  rw [tw_two1]
  refine W.eq (g2 := F0 m 25 ls [.ref r1]) rfl ?_
  refine lv_iload hx hb dX6_forgetsAll_25 (lv_at hl 0 rfl) ?_
  refine va_aldq hx hb hK hP 3 1 rfl rfl (by unfold vp_in; decide) dX6_forgetsAll_27 ?_
  refine W.eq (g2 := F0 m 28 ls [.null]) rfl ?_
  refine lv_ifnullN (tgt := 64) hx hb dX6_forgetsAll_28 (by decide) ?_
  refine lv_iinc (v := 22) (lv' := [(4, .int 22), (3, .int 1), (2, .int 0), (0, .ref mm), (1, .null)]) hx hb dX6_forgetsAll_64 hl (k := 0) rfl (by decide) (by decide) rfl (fun ls hl => ?_)
  refine lv_goto (tgt := 12) hx hb dX6_forgetsAll_67 (by decide) ?_
  refine lv_iload hx hb dX6_forgetsAll_12 (lv_at hl 0 rfl) ?_
  refine lv_bipush (v := 24) hx hb dX6_forgetsAll_14 (by decide) ?_
  refine lv_icmp_ge (tgt := 70) hx hb dX6_forgetsAll_16 (by decide) (fun c9 => absurd c9 (by decide)) (fun c9 => ?_)
  refine lv_aload_n hx hb dX6_forgetsAll_19 rfl (lv_at hl 3 rfl) ?_
  refine va_get (D := D) (ci := 10) (v := .ref pr) (C := RX6) (T := TX6) (N := 12) hx hb hts hiRX6 hown hK hP 0 rfl rfl 6 (by decide) (hts (.fieldLink RX6 29 "TowerliftryModel" "promises" "[[LTowerliftryModel$Car;") (by decide +kernel)) (fun _ h9 => h9) rfl dX6_forgetsAll_20 ?_
  refine lv_iload_n hx hb dX6_forgetsAll_23 rfl (lv_at hl 1 rfl) ?_
  refine tw_aldA hx hb hK hP 1 0 rfl rfl (by unfold vp_in; decide) dX6_forgetsAll_24 ?_
  rw [tw_two1]
  refine W.eq (g2 := F0 m 25 ls [.ref r1]) rfl ?_
  refine lv_iload hx hb dX6_forgetsAll_25 (lv_at hl 0 rfl) ?_
  refine va_aldq hx hb hK hP 3 1 rfl rfl (by unfold vp_in; decide) dX6_forgetsAll_27 ?_
  refine W.eq (g2 := F0 m 28 ls [.null]) rfl ?_
  refine lv_ifnullN (tgt := 64) hx hb dX6_forgetsAll_28 (by decide) ?_
  refine lv_iinc (v := 23) (lv' := [(4, .int 23), (3, .int 1), (2, .int 0), (0, .ref mm), (1, .null)]) hx hb dX6_forgetsAll_64 hl (k := 0) rfl (by decide) (by decide) rfl (fun ls hl => ?_)
  refine lv_goto (tgt := 12) hx hb dX6_forgetsAll_67 (by decide) ?_
  refine lv_iload hx hb dX6_forgetsAll_12 (lv_at hl 0 rfl) ?_
  refine lv_bipush (v := 24) hx hb dX6_forgetsAll_14 (by decide) ?_
  refine lv_icmp_ge (tgt := 70) hx hb dX6_forgetsAll_16 (by decide) (fun c9 => absurd c9 (by decide)) (fun c9 => ?_)
  refine lv_aload_n hx hb dX6_forgetsAll_19 rfl (lv_at hl 3 rfl) ?_
  refine va_get (D := D) (ci := 10) (v := .ref pr) (C := RX6) (T := TX6) (N := 12) hx hb hts hiRX6 hown hK hP 0 rfl rfl 6 (by decide) (hts (.fieldLink RX6 29 "TowerliftryModel" "promises" "[[LTowerliftryModel$Car;") (by decide +kernel)) (fun _ h9 => h9) rfl dX6_forgetsAll_20 ?_
  refine lv_iload_n hx hb dX6_forgetsAll_23 rfl (lv_at hl 1 rfl) ?_
  refine tw_aldA hx hb hK hP 1 0 rfl rfl (by unfold vp_in; decide) dX6_forgetsAll_24 ?_
  rw [tw_two1]
  refine W.eq (g2 := F0 m 25 ls [.ref r1]) rfl ?_
  refine lv_iload hx hb dX6_forgetsAll_25 (lv_at hl 0 rfl) ?_
  refine va_aldq hx hb hK hP 3 1 rfl rfl (by unfold vp_in; decide) dX6_forgetsAll_27 ?_
  refine W.eq (g2 := F0 m 28 ls [.null]) rfl ?_
  refine lv_ifnullN (tgt := 64) hx hb dX6_forgetsAll_28 (by decide) ?_
  refine lv_iinc (v := 24) (lv' := [(4, .int 24), (3, .int 1), (2, .int 0), (0, .ref mm), (1, .null)]) hx hb dX6_forgetsAll_64 hl (k := 0) rfl (by decide) (by decide) rfl (fun ls hl => ?_)
  refine lv_goto (tgt := 12) hx hb dX6_forgetsAll_67 (by decide) ?_
  refine lv_iload hx hb dX6_forgetsAll_12 (lv_at hl 0 rfl) ?_
  refine lv_bipush (v := 24) hx hb dX6_forgetsAll_14 (by decide) ?_
  refine lv_icmp_ge (tgt := 70) hx hb dX6_forgetsAll_16 (by decide) (fun c9 => ?_) (fun c9 => absurd c9 (by decide))
  refine lv_iinc (v := 2) (lv' := [(3, .int 2), (4, .int 24), (2, .int 0), (0, .ref mm), (1, .null)]) hx hb dX6_forgetsAll_70 hl (k := 1) rfl (by decide) (by decide) rfl (fun ls hl => ?_)
  refine lv_goto (tgt := 4) hx hb dX6_forgetsAll_73 (by decide) ?_
  refine lv_iload_n hx hb dX6_forgetsAll_4 rfl (lv_at hl 0 rfl) ?_
  refine lv_iconst (v := 2) hx hb dX6_forgetsAll_5 (by decide) ?_
  refine lv_icmp_ge (tgt := 76) hx hb dX6_forgetsAll_6 (by decide) (fun c9 => ?_) (fun c9 => absurd c9 (by decide))
  refine lv_iload_n hx hb dX6_forgetsAll_76 rfl (lv_at hl 2 rfl) ?_
  refine W.widen (k := 0) (n := 0) (Nat.le_of_ble_eq_true rfl) (Nat.le_of_ble_eq_true rfl) ?_
  have hP9 := hP.sub (ws' := [(mm, .inr (10, [.int f0, .int f1, .int f2, .int f3, .ref c2, .ref ps2, .ref pr, .int f4, .int f5, .int f6, .ref l2, .long g0])), (pr, .inl (cP, 2, .inr (.inr (.inr (.inr ((tw_two r0 r1))))))), (r0, .inl (cR, 24, .inr (.inr (.inr (.inr ((fun _ => none))))))), (r1, .inl (cR, 24, .inr (.inr (.inr (.inr ((fun _ => none)))))))]) [0, 1, 2, 3] rfl
  have hD9 := hD.sub (ws' := [(mm, .inr (10, [.int f0, .int f1, .int f2, .int f3, .ref c2, .ref ps2, .ref pr, .int f4, .int f5, .int f6, .ref l2, .long g0])), (pr, .inl (cP, 2, .inr (.inr (.inr (.inr ((tw_two r0 r1))))))), (r0, .inl (cR, 24, .inr (.inr (.inr (.inr ((fun _ => none))))))), (r1, .inl (cR, 24, .inr (.inr (.inr (.inr ((fun _ => none)))))))]) [0, 1, 2, 3] (by decide) rfl
  have hK9 := hK.sub (tys' := []) [] rfl
  exact W.iret (v := 0) hx hb hr (fun t ht hW => ⟨⟨0, ([(mm, .inr (10, [.int f0, .int f1, .int f2, .int f3, .ref c2, .ref ps2, .ref pr, .int f4, .int f5, .int f6, .ref l2, .long g0])), (pr, .inl (cP, 2, .inr (.inr (.inr (.inr ((tw_two r0 r1))))))), (r0, .inl (cR, 24, .inr (.inr (.inr (.inr ((fun _ => none))))))), (r1, .inl (cR, 24, .inr (.inr (.inr (.inr ((fun _ => none)))))))], []), rfl, ⟨rfl, rfl⟩, by rw [ht]; exact hP9, va_K.moved hW.alike hK9, hD9⟩, hS.F ht⟩) hS.2.2 dX6_forgetsAll_77
set_option maxHeartbeats 4000000 in
set_option maxRecDepth 100000 in
theorem c_X6_fire (l : Launch) (hst : l.stackTraces = false) (em kw kb : Nat) (D : va_G) (mm : Nat) (p0 : Int32) (c2 : Nat) (ps2 : Nat) (pr : Nat) (l2 : Nat) (cP : ClassId) (r0 : Nat) (cR : ClassId) (r1 : Nat) (sz : Nat) : Met l yX6_fire wsX6_fire ({ frames := 3, cells := 1, slots := 4, locals := 53 }) (va_Pc [.ref mm, .int p0] (tw_Pre em kw kb D sz [(mm, .inr (10, [.int 0, .int 9, .int 0, .int 99, .ref c2, .ref ps2, .ref pr, .int 0, .int 0, .int ((-1)), .ref l2, .long 0])), (c2, .inr (3, [.int 0, .ref em, .int 0])), (pr, .inl (cP, 2, .inr (.inr (.inr (.inr ((tw_two r0 r1))))))), (r0, .inl (cR, 24, .inr (.inr (.inr (.inr ((fun _ => none))))))), (r1, .inl (cR, 24, .inr (.inr (.inr (.inr ((fun _ => none)))))))] [(cP, .array (.object "TowerliftryModel$Car")), (cR, .object "TowerliftryModel$Car")])) (va_Qi (fun (r : Int32) (u : tw_U) => ((((p0 < 0) ∨ (¬ p0 < 0 ∧ 9 < p0))) ∧ r = 0 ∧ u = ([(mm, .inr (10, [.int 1, .int 9, .int 0, .int 99, .ref c2, .ref ps2, .ref pr, .int 0, .int 0, .int ((-1)), .ref l2, .long 0]))], [])) ∨ (((¬ p0 < 0 ∧ ¬ 9 < p0)) ∧ r = 0 ∧ u = ([(mm, .inr (10, [.int 0, .int 9, .int 0, .int 99, .ref c2, .ref ps2, .ref pr, .int 0, .int 0, .int p0, .ref l2, .long 0]))], []))) (tw_B D (va_A [(mm, .inr (10, [.int 0, .int 9, .int 0, .int 99, .ref c2, .ref ps2, .ref pr, .int 0, .int 0, .int ((-1)), .ref l2, .long 0])), (c2, .inr (3, [.int 0, .ref em, .int 0])), (pr, .inl (cP, 2, .inr (.inr (.inr (.inr ((tw_two r0 r1))))))), (r0, .inl (cR, 24, .inr (.inr (.inr (.inr ((fun _ => none))))))), (r1, .inl (cR, 24, .inr (.inr (.inr (.inr ((fun _ => none)))))))] sz)) (va_A [(mm, .inr (10, [.int 0, .int 9, .int 0, .int 99, .ref c2, .ref ps2, .ref pr, .int 0, .int 0, .int ((-1)), .ref l2, .long 0])), (c2, .inr (3, [.int 0, .ref em, .int 0])), (pr, .inl (cP, 2, .inr (.inr (.inr (.inr ((tw_two r0 r1))))))), (r0, .inl (cR, 24, .inr (.inr (.inr (.inr ((fun _ => none))))))), (r1, .inl (cR, 24, .inr (.inr (.inr (.inr ((fun _ => none)))))))] sz)) 1 4 (va_A [(mm, .inr (10, [.int 0, .int 9, .int 0, .int 99, .ref c2, .ref ps2, .ref pr, .int 0, .int 0, .int ((-1)), .ref l2, .long 0])), (c2, .inr (3, [.int 0, .ref em, .int 0])), (pr, .inl (cP, 2, .inr (.inr (.inr (.inr ((tw_two r0 r1))))))), (r0, .inl (cR, 24, .inr (.inr (.inr (.inr ((fun _ => none))))))), (r1, .inl (cR, 24, .inr (.inr (.inr (.inr ((fun _ => none)))))))] sz) := by
  refine Met.ofW (cc := cX6_fire) (maxL := 4) (ret := (some .int)) (by decide) rfl ?_
  intro p e s m args below meth c s₁ B hml hv
  obtain ⟨rfl, hsz, hP, hK, hD0, hF⟩ := hv
  have hx := B.exec
  have hb := B.bytes
  have hr := B.returns
  have hts := atoms_spec (ws := wsX6_fire) B.pre
  have hown : s.vm.findClass RX6 = some m.cls := findClass_of_methodNamed B.named
  have hlocks := B.notSynchronized
  have hiRX6 : ∀ w ∈ u_ws RX6 TX6 12, w ∈ wsX6_fire := by decide +kernel
  subst hsz
  have hD := hD0.self (sz := s.heap.size)
  generalize hAe : va_A [(mm, .inr (10, [.int 0, .int 9, .int 0, .int 99, .ref c2, .ref ps2, .ref pr, .int 0, .int 0, .int ((-1)), .ref l2, .long 0])), (c2, .inr (3, [.int 0, .ref em, .int 0])), (pr, .inl (cP, 2, .inr (.inr (.inr (.inr ((tw_two r0 r1))))))), (r0, .inl (cR, 24, .inr (.inr (.inr (.inr ((fun _ => none))))))), (r1, .inl (cR, 24, .inr (.inr (.inr (.inr ((fun _ => none)))))))] s.heap.size = A at hD hF ⊢
  have hA : ∀ q : Nat, s.heap.size ≤ q → A q := fun q h => by rw [← hAe]; exact Or.inr h
  have hS : va_S A s.heap s.heap [] := va_S.rf
  have hP : va_P D vwCl [(mm, .inr (10, [.int 0, .int 9, .int 0, .int 99, .ref c2, .ref ps2, .ref pr, .int 0, .int 0, .int ((-1)), .ref l2, .long 0])), (c2, .inr (3, [.int 0, .ref em, .int 0])), (pr, .inl (cP, 2, .inr (.inr (.inr (.inr ((tw_two r0 r1))))))), (r0, .inl (cR, 24, .inr (.inr (.inr (.inr ((fun _ => none))))))), (r1, .inl (cR, 24, .inr (.inr (.inr (.inr ((fun _ => none)))))))] s.heap := hP
  have hl := lv_entry ([.ref mm, .int p0]) (n := 4) (Nat.le_of_ble_eq_true rfl)
  rw [lg_entry_eq]
  generalize (lg_sl ([.ref mm, .int p0]) ++ List.replicate (4 - (lg_sl ([.ref mm, .int p0])).length) Slot.unset).toArray = ls at hl ⊢
  have hl : lv_has ls 4 [(0, .ref mm), (1, .int p0)] := hl
  refine lv_aload_n hx hb dX6_fire_0 rfl (lv_at hl 0 rfl) ?_
  refine lv_iload_n hx hb dX6_fire_1 rfl (lv_at hl 1 rfl) ?_
  have hPc := hP.sub (ws' := [(mm, .inr (10, [.int 0, .int 9, .int 0, .int 99, .ref c2, .ref ps2, .ref pr, .int 0, .int 0, .int ((-1)), .ref l2, .long 0]))]) [0] rfl
  have hDc := hD.sub (ws' := [(mm, .inr (10, [.int 0, .int 9, .int 0, .int 99, .ref c2, .ref ps2, .ref pr, .int 0, .int 0, .int ((-1)), .ref l2, .long 0]))]) [0] (by decide) rfl
  have hKc := hK.sub (tys' := []) [] rfl
  have hFc := va_free (wc := [(mm, .inr (10, [.int 0, .int 9, .int 0, .int 99, .ref c2, .ref ps2, .ref pr, .int 0, .int 0, .int ((-1)), .ref l2, .long 0]))]) hD hS hA [0] rfl
  refine va_calli (va_runV (As := [.int p0]) (rest := []) ⟨hx, hb, hml, hown, hts⟩ (c_X6_isFloor l hst em kw kb D mm p0 c2 ps2 pr l2 _) (cwV 1 hts gX6_fire_X6_isFloor rfl rfl rfl (by decide +kernel) ⟨(Nat.le_of_ble_eq_true rfl), (Nat.le_of_ble_eq_true rfl)⟩) (tw_preV hF hS hFc hPc hKc hDc (va_recv hKc hPc (ci := 10) (q0 := 0) rfl rfl)) rfl rfl hl.1 rfl (lv_room (Nat.le_of_ble_eq_true rfl)) dX6_fire_2 ⟨(Nat.le_of_ble_eq_true rfl), (Nat.le_of_ble_eq_true rfl)⟩) hS (fun q _ h => hFc q h) hFc (fun r u t H locs ht hvm hw hB hz1 hk1 hS => ?_)
  rcases hw with hw | hw
  · obtain ⟨g_1, rfl, rfl⟩ := hw
    obtain ⟨hP, hD, hK⟩ := tw_join (wr := [(c2, .inr (3, [.int 0, .ref em, .int 0])), (pr, .inl (cP, 2, .inr (.inr (.inr (.inr ((tw_two r0 r1))))))), (r0, .inl (cR, 24, .inr (.inr (.inr (.inr ((fun _ => none))))))), (r1, .inl (cR, 24, .inr (.inr (.inr (.inr ((fun _ => none)))))))]) hP hD hK [0] [1, 2, 3, 4] rfl rfl (by decide) (by decide) hk1 hFc ht hvm hB
    have hP : va_P D vwCl [(c2, .inr (3, [.int 0, .ref em, .int 0])), (pr, .inl (cP, 2, .inr (.inr (.inr (.inr ((tw_two r0 r1))))))), (r0, .inl (cR, 24, .inr (.inr (.inr (.inr ((fun _ => none))))))), (r1, .inl (cR, 24, .inr (.inr (.inr (.inr ((fun _ => none))))))), (mm, .inr (10, [.int 0, .int 9, .int 0, .int 99, .ref c2, .ref ps2, .ref pr, .int 0, .int 0, .int ((-1)), .ref l2, .long 0]))] _ := hP
    have hD : va_D A [(c2, .inr (3, [.int 0, .ref em, .int 0])), (pr, .inl (cP, 2, .inr (.inr (.inr (.inr ((tw_two r0 r1))))))), (r0, .inl (cR, 24, .inr (.inr (.inr (.inr ((fun _ => none))))))), (r1, .inl (cR, 24, .inr (.inr (.inr (.inr ((fun _ => none))))))), (mm, .inr (10, [.int 0, .int 9, .int 0, .int 99, .ref c2, .ref ps2, .ref pr, .int 0, .int 0, .int ((-1)), .ref l2, .long 0]))] := hD
    have hK : va_K D vwCl [(cP, .array (.object "TowerliftryModel$Car")), (cR, .object "TowerliftryModel$Car")] s := hK
    refine W.widen (k := 0) (n := 0) (Nat.le_refl _) (Nat.le_refl _) ?_
    refine W.eq (g2 := F0 m 5 ls [.int 0]) rfl ?_
    refine lv_if_ne (tgt := 14) hx hb dX6_fire_5 (by decide) (fun c9 => absurd c9 (by decide)) (fun c9 => ?_)
    refine lv_aload_n hx hb dX6_fire_8 rfl (lv_at hl 0 rfl) ?_
    refine lv_iconst (v := 1) hx hb dX6_fire_9 (by decide) ?_
    have hPc := hP.sub (ws' := [(mm, .inr (10, [.int 0, .int 9, .int 0, .int 99, .ref c2, .ref ps2, .ref pr, .int 0, .int 0, .int ((-1)), .ref l2, .long 0]))]) [4] rfl
    have hDc := hD.sub (ws' := [(mm, .inr (10, [.int 0, .int 9, .int 0, .int 99, .ref c2, .ref ps2, .ref pr, .int 0, .int 0, .int ((-1)), .ref l2, .long 0]))]) [4] (by decide) rfl
    have hKc := hK.sub (tys' := []) [] rfl
    have hFc := va_free (wc := [(mm, .inr (10, [.int 0, .int 9, .int 0, .int 99, .ref c2, .ref ps2, .ref pr, .int 0, .int 0, .int ((-1)), .ref l2, .long 0]))]) hD hS hA [4] rfl
    refine va_calli (va_runV (As := [.int 1]) (rest := []) ⟨hx, hb, hml, hown, hts⟩ (c_X6_fails l hst em kw kb D mm 1 0 9 0 99 c2 ps2 pr 0 0 ((-1)) l2 0 _) (cwV 1 hts gX6_fire_X6_fails rfl rfl rfl (by decide +kernel) ⟨(Nat.le_of_ble_eq_true rfl), (Nat.le_of_ble_eq_true rfl)⟩) (tw_preV hF hS hFc hPc hKc hDc (va_recv hKc hPc (ci := 10) (q0 := 0) rfl rfl)) rfl rfl hl.1 rfl (lv_room (Nat.le_of_ble_eq_true rfl)) dX6_fire_10 ⟨(Nat.le_of_ble_eq_true rfl), (Nat.le_of_ble_eq_true rfl)⟩) hS (fun q _ h => hFc q h) hFc (fun r u t H locs ht hvm hw hB hz1 hk1 hS => ?_)
    obtain ⟨rfl, rfl⟩ := hw
    obtain ⟨hP, hD, hK⟩ := tw_join (wr := [(c2, .inr (3, [.int 0, .ref em, .int 0])), (pr, .inl (cP, 2, .inr (.inr (.inr (.inr ((tw_two r0 r1))))))), (r0, .inl (cR, 24, .inr (.inr (.inr (.inr ((fun _ => none))))))), (r1, .inl (cR, 24, .inr (.inr (.inr (.inr ((fun _ => none)))))))]) hP hD hK [4] [0, 1, 2, 3] rfl rfl (by decide) (by decide) hk1 hFc ht hvm hB
    have hP : va_P D vwCl [(c2, .inr (3, [.int 0, .ref em, .int 0])), (pr, .inl (cP, 2, .inr (.inr (.inr (.inr ((tw_two r0 r1))))))), (r0, .inl (cR, 24, .inr (.inr (.inr (.inr ((fun _ => none))))))), (r1, .inl (cR, 24, .inr (.inr (.inr (.inr ((fun _ => none))))))), (mm, .inr (10, [.int 1, .int 9, .int 0, .int 99, .ref c2, .ref ps2, .ref pr, .int 0, .int 0, .int ((-1)), .ref l2, .long 0]))] _ := hP
    have hD : va_D A [(c2, .inr (3, [.int 0, .ref em, .int 0])), (pr, .inl (cP, 2, .inr (.inr (.inr (.inr ((tw_two r0 r1))))))), (r0, .inl (cR, 24, .inr (.inr (.inr (.inr ((fun _ => none))))))), (r1, .inl (cR, 24, .inr (.inr (.inr (.inr ((fun _ => none))))))), (mm, .inr (10, [.int 1, .int 9, .int 0, .int 99, .ref c2, .ref ps2, .ref pr, .int 0, .int 0, .int ((-1)), .ref l2, .long 0]))] := hD
    have hK : va_K D vwCl [(cP, .array (.object "TowerliftryModel$Car")), (cR, .object "TowerliftryModel$Car")] s := hK
    refine W.widen (k := 0) (n := 0) (Nat.le_refl _) (Nat.le_refl _) ?_
    refine W.eq (g2 := F0 m 13 ls [.int 0]) rfl ?_
    refine W.widen (k := 1) (n := 4) (Nat.le_of_ble_eq_true rfl) (Nat.le_of_ble_eq_true rfl) ?_
    have hP9 := hP.sub (ws' := [(mm, .inr (10, [.int 1, .int 9, .int 0, .int 99, .ref c2, .ref ps2, .ref pr, .int 0, .int 0, .int ((-1)), .ref l2, .long 0]))]) [4] rfl
    have hD9 := hD.sub (ws' := [(mm, .inr (10, [.int 1, .int 9, .int 0, .int 99, .ref c2, .ref ps2, .ref pr, .int 0, .int 0, .int ((-1)), .ref l2, .long 0]))]) [4] (by decide) rfl
    have hK9 := hK.sub (tys' := []) [] rfl
    exact W.iret (v := 0) hx hb hr (fun t ht hW => ⟨⟨0, ([(mm, .inr (10, [.int 1, .int 9, .int 0, .int 99, .ref c2, .ref ps2, .ref pr, .int 0, .int 0, .int ((-1)), .ref l2, .long 0]))], []), rfl, (Or.inl ⟨g_1, rfl, rfl⟩), by rw [ht]; exact hP9, va_K.moved hW.alike hK9, hD9⟩, hS.F ht⟩) hS.2.2 dX6_fire_13
  · obtain ⟨g_2, rfl, rfl⟩ := hw
    obtain ⟨hP, hD, hK⟩ := tw_join (wr := [(c2, .inr (3, [.int 0, .ref em, .int 0])), (pr, .inl (cP, 2, .inr (.inr (.inr (.inr ((tw_two r0 r1))))))), (r0, .inl (cR, 24, .inr (.inr (.inr (.inr ((fun _ => none))))))), (r1, .inl (cR, 24, .inr (.inr (.inr (.inr ((fun _ => none)))))))]) hP hD hK [0] [1, 2, 3, 4] rfl rfl (by decide) (by decide) hk1 hFc ht hvm hB
    have hP : va_P D vwCl [(c2, .inr (3, [.int 0, .ref em, .int 0])), (pr, .inl (cP, 2, .inr (.inr (.inr (.inr ((tw_two r0 r1))))))), (r0, .inl (cR, 24, .inr (.inr (.inr (.inr ((fun _ => none))))))), (r1, .inl (cR, 24, .inr (.inr (.inr (.inr ((fun _ => none))))))), (mm, .inr (10, [.int 0, .int 9, .int 0, .int 99, .ref c2, .ref ps2, .ref pr, .int 0, .int 0, .int ((-1)), .ref l2, .long 0]))] _ := hP
    have hD : va_D A [(c2, .inr (3, [.int 0, .ref em, .int 0])), (pr, .inl (cP, 2, .inr (.inr (.inr (.inr ((tw_two r0 r1))))))), (r0, .inl (cR, 24, .inr (.inr (.inr (.inr ((fun _ => none))))))), (r1, .inl (cR, 24, .inr (.inr (.inr (.inr ((fun _ => none))))))), (mm, .inr (10, [.int 0, .int 9, .int 0, .int 99, .ref c2, .ref ps2, .ref pr, .int 0, .int 0, .int ((-1)), .ref l2, .long 0]))] := hD
    have hK : va_K D vwCl [(cP, .array (.object "TowerliftryModel$Car")), (cR, .object "TowerliftryModel$Car")] s := hK
    refine W.widen (k := 0) (n := 0) (Nat.le_refl _) (Nat.le_refl _) ?_
    refine W.eq (g2 := F0 m 5 ls [.int 1]) rfl ?_
    refine lv_if_ne (tgt := 14) hx hb dX6_fire_5 (by decide) (fun c9 => ?_) (fun c9 => absurd c9 (by decide))
    refine lv_aload_n hx hb dX6_fire_14 rfl (lv_at hl 0 rfl) ?_
    refine lv_iload_n hx hb dX6_fire_15 rfl (lv_at hl 1 rfl) ?_
    refine va_put (D := D) (ci := 10) (v := .int p0) (ty := .int) (C := RX6) (T := TX6) (N := 12) hx hb hts hiRX6 tyX6 tyX6_ok nmX6 hown hK hP hD hS 4 rfl rfl 9 (by decide) (hts (.fieldLink RX6 32 "TowerliftryModel" "fire" "I") (by decide +kernel)) (fun _ h9 => h9) rfl (by decide +kernel) rfl rfl (Nat.le_of_ble_eq_true rfl) dX6_fire_16 (fun H locs hP hD hS => ?_)
    have hP : va_P D vwCl [(c2, .inr (3, [.int 0, .ref em, .int 0])), (pr, .inl (cP, 2, .inr (.inr (.inr (.inr ((tw_two r0 r1))))))), (r0, .inl (cR, 24, .inr (.inr (.inr (.inr ((fun _ => none))))))), (r1, .inl (cR, 24, .inr (.inr (.inr (.inr ((fun _ => none))))))), (mm, .inr (10, [.int 0, .int 9, .int 0, .int 99, .ref c2, .ref ps2, .ref pr, .int 0, .int 0, .int p0, .ref l2, .long 0]))] _ := hP
    have hD : va_D A [(c2, .inr (3, [.int 0, .ref em, .int 0])), (pr, .inl (cP, 2, .inr (.inr (.inr (.inr ((tw_two r0 r1))))))), (r0, .inl (cR, 24, .inr (.inr (.inr (.inr ((fun _ => none))))))), (r1, .inl (cR, 24, .inr (.inr (.inr (.inr ((fun _ => none))))))), (mm, .inr (10, [.int 0, .int 9, .int 0, .int 99, .ref c2, .ref ps2, .ref pr, .int 0, .int 0, .int p0, .ref l2, .long 0]))] := hD
    refine lv_aload_n hx hb dX6_fire_19 rfl (lv_at hl 0 rfl) ?_
    refine va_get (D := D) (ci := 10) (v := .ref c2) (C := RX6) (T := TX6) (N := 12) hx hb hts hiRX6 hown hK hP 4 rfl rfl 4 (by decide) (hts (.fieldLink RX6 20 "TowerliftryModel" "cars" "Ljava/util/ArrayList;") (by decide +kernel)) (fun _ h9 => h9) rfl dX6_fire_20 ?_
    have hPc := hP.sub (ws' := [(c2, .inr (3, [.int 0, .ref em, .int 0]))]) [0] rfl
    have hDc := hD.sub (ws' := [(c2, .inr (3, [.int 0, .ref em, .int 0]))]) [0] (by decide) rfl
    have hKc := hK.sub (tys' := []) [] rfl
    have hFc := va_free (wc := [(c2, .inr (3, [.int 0, .ref em, .int 0]))]) hD hS hA [0] rfl
    refine va_callq (va_runV (As := []) (rest := []) ⟨hx, hb, hml, hown, hts⟩ (c_Jx4a65c_iterator_32c93 l hst em kw kb D c2 em _) (cwV 0 hts gX6_fire_Jx4a65c_iterator_32c93 rfl rfl rfl (by decide +kernel) ⟨(Nat.le_of_ble_eq_true rfl), (Nat.le_of_ble_eq_true rfl)⟩) (tw_preV hF hS hFc hPc hKc hDc (va_recv hKc hPc (ci := 3) (q0 := 0) rfl rfl)) rfl rfl hl.1 rfl (lv_room (Nat.le_of_ble_eq_true rfl)) dX6_fire_23 ⟨(Nat.le_of_ble_eq_true rfl), (Nat.le_of_ble_eq_true rfl)⟩) hS (fun q _ h => hFc q h) hFc (fun r u t H locs ht hvm hw hB hz1 hk1 hS => ?_)
    obtain ⟨q_3, rfl, rfl⟩ := hw
    obtain ⟨hP, hD, hK⟩ := tw_join (wr := [(pr, .inl (cP, 2, .inr (.inr (.inr (.inr ((tw_two r0 r1))))))), (r0, .inl (cR, 24, .inr (.inr (.inr (.inr ((fun _ => none))))))), (r1, .inl (cR, 24, .inr (.inr (.inr (.inr ((fun _ => none))))))), (mm, .inr (10, [.int 0, .int 9, .int 0, .int 99, .ref c2, .ref ps2, .ref pr, .int 0, .int 0, .int p0, .ref l2, .long 0]))]) hP hD hK [0] [1, 2, 3, 4] rfl rfl (by decide) (by decide) hk1 hFc ht hvm hB
    have hP : va_P D vwCl [(pr, .inl (cP, 2, .inr (.inr (.inr (.inr ((tw_two r0 r1))))))), (r0, .inl (cR, 24, .inr (.inr (.inr (.inr ((fun _ => none))))))), (r1, .inl (cR, 24, .inr (.inr (.inr (.inr ((fun _ => none))))))), (mm, .inr (10, [.int 0, .int 9, .int 0, .int 99, .ref c2, .ref ps2, .ref pr, .int 0, .int 0, .int p0, .ref l2, .long 0])), (q_3, .inr (2, [.int 0, .int ((-1)), .int 0, .ref c2])), (c2, .inr (3, [.int 0, .ref em, .int 0]))] _ := hP
    have hD : va_D A [(pr, .inl (cP, 2, .inr (.inr (.inr (.inr ((tw_two r0 r1))))))), (r0, .inl (cR, 24, .inr (.inr (.inr (.inr ((fun _ => none))))))), (r1, .inl (cR, 24, .inr (.inr (.inr (.inr ((fun _ => none))))))), (mm, .inr (10, [.int 0, .int 9, .int 0, .int 99, .ref c2, .ref ps2, .ref pr, .int 0, .int 0, .int p0, .ref l2, .long 0])), (q_3, .inr (2, [.int 0, .int ((-1)), .int 0, .ref c2])), (c2, .inr (3, [.int 0, .ref em, .int 0]))] := hD
    have hK : va_K D vwCl [(cP, .array (.object "TowerliftryModel$Car")), (cR, .object "TowerliftryModel$Car")] s := hK
    refine W.widen (k := 1) (n := 4) (Nat.le_refl _) (Nat.le_refl _) ?_
    refine W.eq (g2 := F0 m 26 ls [.ref q_3]) rfl ?_
    refine lv_astore_n (lv' := [(2, .ref q_3), (0, .ref mm), (1, .int p0)]) hx hb dX6_fire_26 rfl hl (by decide) rfl (fun ls hl => ?_)
    refine lv_aload_n hx hb dX6_fire_27 rfl (lv_at hl 0 rfl) ?_
    have hPc := hP.sub (ws' := [(q_3, .inr (2, [.int 0, .int ((-1)), .int 0, .ref c2])), (c2, .inr (3, [.int 0, .ref em, .int 0]))]) [4, 5] rfl
    have hDc := hD.sub (ws' := [(q_3, .inr (2, [.int 0, .int ((-1)), .int 0, .ref c2])), (c2, .inr (3, [.int 0, .ref em, .int 0]))]) [4, 5] (by decide) rfl
    have hKc := hK.sub (tys' := []) [] rfl
    have hFc := va_free (wc := [(q_3, .inr (2, [.int 0, .int ((-1)), .int 0, .ref c2])), (c2, .inr (3, [.int 0, .ref em, .int 0]))]) hD hS hA [4, 5] rfl
    refine va_callFi (va_runF (hKc.1 2 _ rfl).2 (As := []) (rest := []) ⟨hx, hb, hml, hown, hts⟩ (c_Jx35411_hasNext_aae02 l hst em kw kb D q_3 c2 em _) (va_cwF 0 hts gX6_fire_Jx35411_hasNext_aae02_f64Jx35411 rfl rfl rfl (tw_fw hF) (by decide +kernel) ⟨(Nat.le_of_ble_eq_true rfl), (Nat.le_of_ble_eq_true rfl)⟩) (tw_preV hF hS hFc hPc hKc hDc (va_recv hKc hPc (ci := 2) (q0 := 0) rfl rfl)) rfl rfl hl.1 rfl (lv_room (Nat.le_of_ble_eq_true rfl)) dX6_fire_28 ⟨(Nat.le_of_ble_eq_true rfl), (Nat.le_of_ble_eq_true rfl)⟩) hS (fun q _ h => hFc q h) hFc (fun r u t H locs ht hvm hw hB hz1 hk1 hS => ?_)
    obtain ⟨rfl, rfl⟩ := hw
    obtain ⟨hP, hD, hK⟩ := tw_join (wr := [(pr, .inl (cP, 2, .inr (.inr (.inr (.inr ((tw_two r0 r1))))))), (r0, .inl (cR, 24, .inr (.inr (.inr (.inr ((fun _ => none))))))), (r1, .inl (cR, 24, .inr (.inr (.inr (.inr ((fun _ => none))))))), (mm, .inr (10, [.int 0, .int 9, .int 0, .int 99, .ref c2, .ref ps2, .ref pr, .int 0, .int 0, .int p0, .ref l2, .long 0]))]) hP hD hK [4, 5] [0, 1, 2, 3] rfl rfl (by decide) (by decide) hk1 hFc ht hvm hB
    have hP : va_P D vwCl [(pr, .inl (cP, 2, .inr (.inr (.inr (.inr ((tw_two r0 r1))))))), (r0, .inl (cR, 24, .inr (.inr (.inr (.inr ((fun _ => none))))))), (r1, .inl (cR, 24, .inr (.inr (.inr (.inr ((fun _ => none))))))), (mm, .inr (10, [.int 0, .int 9, .int 0, .int 99, .ref c2, .ref ps2, .ref pr, .int 0, .int 0, .int p0, .ref l2, .long 0])), (q_3, .inr (2, [.int 0, .int ((-1)), .int 0, .ref c2])), (c2, .inr (3, [.int 0, .ref em, .int 0]))] _ := hP
    have hD : va_D A [(pr, .inl (cP, 2, .inr (.inr (.inr (.inr ((tw_two r0 r1))))))), (r0, .inl (cR, 24, .inr (.inr (.inr (.inr ((fun _ => none))))))), (r1, .inl (cR, 24, .inr (.inr (.inr (.inr ((fun _ => none))))))), (mm, .inr (10, [.int 0, .int 9, .int 0, .int 99, .ref c2, .ref ps2, .ref pr, .int 0, .int 0, .int p0, .ref l2, .long 0])), (q_3, .inr (2, [.int 0, .int ((-1)), .int 0, .ref c2])), (c2, .inr (3, [.int 0, .ref em, .int 0]))] := hD
    have hK : va_K D vwCl [(cP, .array (.object "TowerliftryModel$Car")), (cR, .object "TowerliftryModel$Car")] s := hK
    refine W.widen (k := 1) (n := 4) (Nat.le_refl _) (Nat.le_refl _) ?_
    refine W.eq (g2 := F0 m 33 ls [.int 0]) rfl ?_
    refine lv_if_eq (tgt := 54) hx hb dX6_fire_33 (by decide) (fun c9 => ?_) (fun c9 => absurd c9 (by decide))
    refine lv_aload_n hx hb dX6_fire_54 rfl (lv_at hl 1 rfl) ?_
    refine lv_aload_n hx hb dX6_fire_55 rfl (lv_at hl 1 rfl) ?_
    refine lv_null hx hb dX6_fire_56 ?_
    have hPc := hP.sub (ws' := [(mm, .inr (10, [.int 0, .int 9, .int 0, .int 99, .ref c2, .ref ps2, .ref pr, .int 0, .int 0, .int p0, .ref l2, .long 0])), (pr, .inl (cP, 2, .inr (.inr (.inr (.inr ((tw_two r0 r1))))))), (r0, .inl (cR, 24, .inr (.inr (.inr (.inr ((fun _ => none))))))), (r1, .inl (cR, 24, .inr (.inr (.inr (.inr ((fun _ => none)))))))]) [3, 0, 1, 2] rfl
    have hDc := hD.sub (ws' := [(mm, .inr (10, [.int 0, .int 9, .int 0, .int 99, .ref c2, .ref ps2, .ref pr, .int 0, .int 0, .int p0, .ref l2, .long 0])), (pr, .inl (cP, 2, .inr (.inr (.inr (.inr ((tw_two r0 r1))))))), (r0, .inl (cR, 24, .inr (.inr (.inr (.inr ((fun _ => none))))))), (r1, .inl (cR, 24, .inr (.inr (.inr (.inr ((fun _ => none)))))))]) [3, 0, 1, 2] (by decide) rfl
    have hKc := hK.sub (tys' := [(cP, .array (.object "TowerliftryModel$Car")), (cR, .object "TowerliftryModel$Car")]) [0, 1] rfl
    have hFc := va_free (wc := [(mm, .inr (10, [.int 0, .int 9, .int 0, .int 99, .ref c2, .ref ps2, .ref pr, .int 0, .int 0, .int p0, .ref l2, .long 0])), (pr, .inl (cP, 2, .inr (.inr (.inr (.inr ((tw_two r0 r1))))))), (r0, .inl (cR, 24, .inr (.inr (.inr (.inr ((fun _ => none))))))), (r1, .inl (cR, 24, .inr (.inr (.inr (.inr ((fun _ => none)))))))]) hD hS hA [3, 0, 1, 2] rfl
    refine va_calli (va_runV (As := [.null]) (rest := [.ref mm]) ⟨hx, hb, hml, hown, hts⟩ (c_X6_forgetsAll l hst em kw kb D mm 0 9 0 99 c2 ps2 pr 0 0 p0 l2 0 cP r0 cR r1 _) (cwV 1 hts gX6_fire_X6_forgetsAll rfl rfl rfl (by decide +kernel) ⟨(Nat.le_of_ble_eq_true rfl), (Nat.le_of_ble_eq_true rfl)⟩) (tw_preV hF hS hFc hPc hKc hDc (va_recv hKc hPc (ci := 10) (q0 := 0) rfl rfl)) rfl rfl hl.1 rfl (lv_room (Nat.le_of_ble_eq_true rfl)) dX6_fire_57 ⟨(Nat.le_of_ble_eq_true rfl), (Nat.le_of_ble_eq_true rfl)⟩) hS (fun q _ h => hFc q h) hFc (fun r u t H locs ht hvm hw hB hz1 hk1 hS => ?_)
    obtain ⟨rfl, rfl⟩ := hw
    obtain ⟨hP, hD, hK⟩ := tw_join (wr := [(q_3, .inr (2, [.int 0, .int ((-1)), .int 0, .ref c2])), (c2, .inr (3, [.int 0, .ref em, .int 0]))]) hP hD hK [3, 0, 1, 2] [4, 5] rfl rfl (by decide) (by decide) hk1 hFc ht hvm hB
    have hP : va_P D vwCl [(q_3, .inr (2, [.int 0, .int ((-1)), .int 0, .ref c2])), (c2, .inr (3, [.int 0, .ref em, .int 0])), (mm, .inr (10, [.int 0, .int 9, .int 0, .int 99, .ref c2, .ref ps2, .ref pr, .int 0, .int 0, .int p0, .ref l2, .long 0])), (pr, .inl (cP, 2, .inr (.inr (.inr (.inr ((tw_two r0 r1))))))), (r0, .inl (cR, 24, .inr (.inr (.inr (.inr ((fun _ => none))))))), (r1, .inl (cR, 24, .inr (.inr (.inr (.inr ((fun _ => none)))))))] _ := hP
    have hD : va_D A [(q_3, .inr (2, [.int 0, .int ((-1)), .int 0, .ref c2])), (c2, .inr (3, [.int 0, .ref em, .int 0])), (mm, .inr (10, [.int 0, .int 9, .int 0, .int 99, .ref c2, .ref ps2, .ref pr, .int 0, .int 0, .int p0, .ref l2, .long 0])), (pr, .inl (cP, 2, .inr (.inr (.inr (.inr ((tw_two r0 r1))))))), (r0, .inl (cR, 24, .inr (.inr (.inr (.inr ((fun _ => none))))))), (r1, .inl (cR, 24, .inr (.inr (.inr (.inr ((fun _ => none)))))))] := hD
    have hK : va_K D vwCl [(cP, .array (.object "TowerliftryModel$Car")), (cR, .object "TowerliftryModel$Car")] s := hK
    refine W.widen (k := 1) (n := 4) (Nat.le_refl _) (Nat.le_refl _) ?_
    refine W.eq (g2 := F0 m 60 ls [.int 0, .ref mm]) rfl ?_
    have hPc := hP.sub (ws' := [(mm, .inr (10, [.int 0, .int 9, .int 0, .int 99, .ref c2, .ref ps2, .ref pr, .int 0, .int 0, .int p0, .ref l2, .long 0]))]) [2] rfl
    have hDc := hD.sub (ws' := [(mm, .inr (10, [.int 0, .int 9, .int 0, .int 99, .ref c2, .ref ps2, .ref pr, .int 0, .int 0, .int p0, .ref l2, .long 0]))]) [2] (by decide) rfl
    have hKc := hK.sub (tys' := []) [] rfl
    have hFc := va_free (wc := [(mm, .inr (10, [.int 0, .int 9, .int 0, .int 99, .ref c2, .ref ps2, .ref pr, .int 0, .int 0, .int p0, .ref l2, .long 0]))]) hD hS hA [2] rfl
    refine va_calli (va_runV (As := [.int 0]) (rest := []) ⟨hx, hb, hml, hown, hts⟩ (c_X6_tells l hst em kw kb D mm 0 0 9 0 99 c2 ps2 pr 0 0 p0 l2 0 _) (cwV 1 hts gX6_fire_X6_tells rfl rfl rfl (by decide +kernel) ⟨(Nat.le_of_ble_eq_true rfl), (Nat.le_of_ble_eq_true rfl)⟩) (tw_preV hF hS hFc hPc hKc hDc (va_recv hKc hPc (ci := 10) (q0 := 0) rfl rfl)) rfl rfl hl.1 rfl (lv_room (Nat.le_of_ble_eq_true rfl)) dX6_fire_60 ⟨(Nat.le_of_ble_eq_true rfl), (Nat.le_of_ble_eq_true rfl)⟩) hS (fun q _ h => hFc q h) hFc (fun r u t H locs ht hvm hw hB hz1 hk1 hS => ?_)
    obtain ⟨rfl, rfl⟩ := hw
    obtain ⟨hP, hD, hK⟩ := tw_join (wr := [(q_3, .inr (2, [.int 0, .int ((-1)), .int 0, .ref c2])), (c2, .inr (3, [.int 0, .ref em, .int 0])), (pr, .inl (cP, 2, .inr (.inr (.inr (.inr ((tw_two r0 r1))))))), (r0, .inl (cR, 24, .inr (.inr (.inr (.inr ((fun _ => none))))))), (r1, .inl (cR, 24, .inr (.inr (.inr (.inr ((fun _ => none)))))))]) hP hD hK [2] [0, 1, 3, 4, 5] rfl rfl (by decide) (by decide) hk1 hFc ht hvm hB
    have hP : va_P D vwCl [(q_3, .inr (2, [.int 0, .int ((-1)), .int 0, .ref c2])), (c2, .inr (3, [.int 0, .ref em, .int 0])), (pr, .inl (cP, 2, .inr (.inr (.inr (.inr ((tw_two r0 r1))))))), (r0, .inl (cR, 24, .inr (.inr (.inr (.inr ((fun _ => none))))))), (r1, .inl (cR, 24, .inr (.inr (.inr (.inr ((fun _ => none))))))), (mm, .inr (10, [.int 0, .int 9, .int 0, .int 99, .ref c2, .ref ps2, .ref pr, .int 0, .int 0, .int p0, .ref l2, .long 0]))] _ := hP
    have hD : va_D A [(q_3, .inr (2, [.int 0, .int ((-1)), .int 0, .ref c2])), (c2, .inr (3, [.int 0, .ref em, .int 0])), (pr, .inl (cP, 2, .inr (.inr (.inr (.inr ((tw_two r0 r1))))))), (r0, .inl (cR, 24, .inr (.inr (.inr (.inr ((fun _ => none))))))), (r1, .inl (cR, 24, .inr (.inr (.inr (.inr ((fun _ => none))))))), (mm, .inr (10, [.int 0, .int 9, .int 0, .int 99, .ref c2, .ref ps2, .ref pr, .int 0, .int 0, .int p0, .ref l2, .long 0]))] := hD
    have hK : va_K D vwCl [(cP, .array (.object "TowerliftryModel$Car")), (cR, .object "TowerliftryModel$Car")] s := hK
    refine W.widen (k := 1) (n := 4) (Nat.le_refl _) (Nat.le_refl _) ?_
    refine W.eq (g2 := F0 m 63 ls [.int 0]) rfl ?_
    refine W.widen (k := 1) (n := 4) (Nat.le_of_ble_eq_true rfl) (Nat.le_of_ble_eq_true rfl) ?_
    have hP9 := hP.sub (ws' := [(mm, .inr (10, [.int 0, .int 9, .int 0, .int 99, .ref c2, .ref ps2, .ref pr, .int 0, .int 0, .int p0, .ref l2, .long 0]))]) [5] rfl
    have hD9 := hD.sub (ws' := [(mm, .inr (10, [.int 0, .int 9, .int 0, .int 99, .ref c2, .ref ps2, .ref pr, .int 0, .int 0, .int p0, .ref l2, .long 0]))]) [5] (by decide) rfl
    have hK9 := hK.sub (tys' := []) [] rfl
    exact W.iret (v := 0) hx hb hr (fun t ht hW => ⟨⟨0, ([(mm, .inr (10, [.int 0, .int 9, .int 0, .int 99, .ref c2, .ref ps2, .ref pr, .int 0, .int 0, .int p0, .ref l2, .long 0]))], []), rfl, (Or.inr (⟨g_2, rfl, rfl⟩)), by rw [ht]; exact hP9, va_K.moved hW.alike hK9, hD9⟩, hS.F ht⟩) hS.2.2 dX6_fire_63
set_option maxHeartbeats 4000000 in
set_option maxRecDepth 100000 in
theorem c_X6_clear (l : Launch) (hst : l.stackTraces = false) (em kw kb : Nat) (D : va_G) (mm : Nat) (c2 : Nat) (ps2 : Nat) (pr : Nat) (l2 : Nat) (sz : Nat) : Met l yX6_clear wsX6_clear ({ frames := 3, cells := 1, slots := 4, locals := 53 }) (va_Pc [.ref mm] (tw_Pre em kw kb D sz [(mm, .inr (10, [.int 0, .int 9, .int 0, .int 99, .ref c2, .ref ps2, .ref pr, .int 0, .int 0, .int ((-1)), .ref l2, .long 0])), (c2, .inr (3, [.int 0, .ref em, .int 0]))] [])) (va_Qi (fun (r : Int32) (u : tw_U) => r = 0 ∧ u = ([(mm, .inr (10, [.int 0, .int 9, .int 0, .int 99, .ref c2, .ref ps2, .ref pr, .int 0, .int 0, .int ((-1)), .ref l2, .long 0]))], [])) (tw_B D (va_A [(mm, .inr (10, [.int 0, .int 9, .int 0, .int 99, .ref c2, .ref ps2, .ref pr, .int 0, .int 0, .int ((-1)), .ref l2, .long 0])), (c2, .inr (3, [.int 0, .ref em, .int 0]))] sz)) (va_A [(mm, .inr (10, [.int 0, .int 9, .int 0, .int 99, .ref c2, .ref ps2, .ref pr, .int 0, .int 0, .int ((-1)), .ref l2, .long 0])), (c2, .inr (3, [.int 0, .ref em, .int 0]))] sz)) 1 4 (va_A [(mm, .inr (10, [.int 0, .int 9, .int 0, .int 99, .ref c2, .ref ps2, .ref pr, .int 0, .int 0, .int ((-1)), .ref l2, .long 0])), (c2, .inr (3, [.int 0, .ref em, .int 0]))] sz) := by
  refine Met.ofW (cc := cX6_clear) (maxL := 4) (ret := (some .boolean)) (by decide) rfl ?_
  intro p e s m args below meth c s₁ B hml hv
  obtain ⟨rfl, hsz, hP, hK, hD0, hF⟩ := hv
  have hx := B.exec
  have hb := B.bytes
  have hr := B.returns
  have hts := atoms_spec (ws := wsX6_clear) B.pre
  have hown : s.vm.findClass RX6 = some m.cls := findClass_of_methodNamed B.named
  have hlocks := B.notSynchronized
  have hiRX6 : ∀ w ∈ u_ws RX6 TX6 12, w ∈ wsX6_clear := by decide +kernel
  subst hsz
  have hD := hD0.self (sz := s.heap.size)
  generalize hAe : va_A [(mm, .inr (10, [.int 0, .int 9, .int 0, .int 99, .ref c2, .ref ps2, .ref pr, .int 0, .int 0, .int ((-1)), .ref l2, .long 0])), (c2, .inr (3, [.int 0, .ref em, .int 0]))] s.heap.size = A at hD hF ⊢
  have hA : ∀ q : Nat, s.heap.size ≤ q → A q := fun q h => by rw [← hAe]; exact Or.inr h
  have hS : va_S A s.heap s.heap [] := va_S.rf
  have hP : va_P D vwCl [(mm, .inr (10, [.int 0, .int 9, .int 0, .int 99, .ref c2, .ref ps2, .ref pr, .int 0, .int 0, .int ((-1)), .ref l2, .long 0])), (c2, .inr (3, [.int 0, .ref em, .int 0]))] s.heap := hP
  have hl := lv_entry ([.ref mm]) (n := 4) (Nat.le_of_ble_eq_true rfl)
  rw [lg_entry_eq]
  generalize (lg_sl ([.ref mm]) ++ List.replicate (4 - (lg_sl ([.ref mm])).length) Slot.unset).toArray = ls at hl ⊢
  have hl : lv_has ls 4 [(0, .ref mm)] := hl
  refine lv_aload_n hx hb dX6_clear_0 rfl (lv_at hl 0 rfl) ?_
  refine lv_iconst (v := 0) hx hb dX6_clear_1 (by decide) ?_
  refine va_put (D := D) (ci := 10) (v := .int 0) (ty := .int) (C := RX6) (T := TX6) (N := 12) hx hb hts hiRX6 tyX6 tyX6_ok nmX6 hown hK hP hD hS 0 rfl rfl 0 (by decide) (hts (.fieldLink RX6 38 "TowerliftryModel" "thrown" "I") (by decide +kernel)) (fun _ h9 => h9) rfl (by decide +kernel) rfl rfl (Nat.le_of_ble_eq_true rfl) dX6_clear_2 (fun H locs hP hD hS => ?_)
  have hP : va_P D vwCl [(mm, .inr (10, [.int 0, .int 9, .int 0, .int 99, .ref c2, .ref ps2, .ref pr, .int 0, .int 0, .int ((-1)), .ref l2, .long 0])), (c2, .inr (3, [.int 0, .ref em, .int 0]))] _ := hP
  have hD : va_D A [(mm, .inr (10, [.int 0, .int 9, .int 0, .int 99, .ref c2, .ref ps2, .ref pr, .int 0, .int 0, .int ((-1)), .ref l2, .long 0])), (c2, .inr (3, [.int 0, .ref em, .int 0]))] := hD
  refine lv_aload_n hx hb dX6_clear_5 rfl (lv_at hl 0 rfl) ?_
  refine va_get (D := D) (ci := 10) (v := .int ((-1))) (C := RX6) (T := TX6) (N := 12) hx hb hts hiRX6 hown hK hP 0 rfl rfl 9 (by decide) (hts (.fieldLink RX6 32 "TowerliftryModel" "fire" "I") (by decide +kernel)) (fun _ h9 => h9) rfl dX6_clear_6 ?_
  refine lv_iconst (v := (-1)) hx hb dX6_clear_9 (by decide) ?_
  refine lv_icmp_eq (tgt := 17) hx hb dX6_clear_10 (by decide) (fun c9 => ?_) (fun c9 => absurd c9 (by decide))
  refine lv_iconst (v := 0) hx hb dX6_clear_17 (by decide) ?_
  refine lv_istore_n (lv' := [(1, .int 0), (0, .ref mm)]) hx hb dX6_clear_18 rfl hl (by decide) rfl (fun ls hl => ?_)
  refine lv_aload_n hx hb dX6_clear_19 rfl (lv_at hl 1 rfl) ?_
  refine lv_iconst (v := (-1)) hx hb dX6_clear_20 (by decide) ?_
  refine va_put (D := D) (ci := 10) (v := .int ((-1))) (ty := .int) (C := RX6) (T := TX6) (N := 12) hx hb hts hiRX6 tyX6 tyX6_ok nmX6 hown hK hP hD hS 0 rfl rfl 9 (by decide) (hts (.fieldLink RX6 32 "TowerliftryModel" "fire" "I") (by decide +kernel)) (fun _ h9 => h9) rfl (by decide +kernel) rfl rfl (Nat.le_of_ble_eq_true rfl) dX6_clear_21 (fun H locs hP hD hS => ?_)
  have hP : va_P D vwCl [(mm, .inr (10, [.int 0, .int 9, .int 0, .int 99, .ref c2, .ref ps2, .ref pr, .int 0, .int 0, .int ((-1)), .ref l2, .long 0])), (c2, .inr (3, [.int 0, .ref em, .int 0]))] _ := hP
  have hD : va_D A [(mm, .inr (10, [.int 0, .int 9, .int 0, .int 99, .ref c2, .ref ps2, .ref pr, .int 0, .int 0, .int ((-1)), .ref l2, .long 0])), (c2, .inr (3, [.int 0, .ref em, .int 0]))] := hD
  refine lv_aload_n hx hb dX6_clear_24 rfl (lv_at hl 1 rfl) ?_
  refine va_get (D := D) (ci := 10) (v := .ref c2) (C := RX6) (T := TX6) (N := 12) hx hb hts hiRX6 hown hK hP 0 rfl rfl 4 (by decide) (hts (.fieldLink RX6 20 "TowerliftryModel" "cars" "Ljava/util/ArrayList;") (by decide +kernel)) (fun _ h9 => h9) rfl dX6_clear_25 ?_
  have hPc := hP.sub (ws' := [(c2, .inr (3, [.int 0, .ref em, .int 0]))]) [1] rfl
  have hDc := hD.sub (ws' := [(c2, .inr (3, [.int 0, .ref em, .int 0]))]) [1] (by decide) rfl
  have hKc := hK.sub (tys' := []) [] rfl
  have hFc := va_free (wc := [(c2, .inr (3, [.int 0, .ref em, .int 0]))]) hD hS hA [1] rfl
  refine va_callq (va_runV (As := []) (rest := []) ⟨hx, hb, hml, hown, hts⟩ (c_Jx4a65c_iterator_32c93 l hst em kw kb D c2 em _) (cwV 0 hts gX6_clear_Jx4a65c_iterator_32c93 rfl rfl rfl (by decide +kernel) ⟨(Nat.le_of_ble_eq_true rfl), (Nat.le_of_ble_eq_true rfl)⟩) (tw_preV hF hS hFc hPc hKc hDc (va_recv hKc hPc (ci := 3) (q0 := 0) rfl rfl)) rfl rfl hl.1 rfl (lv_room (Nat.le_of_ble_eq_true rfl)) dX6_clear_28 ⟨(Nat.le_of_ble_eq_true rfl), (Nat.le_of_ble_eq_true rfl)⟩) hS (fun q _ h => hFc q h) hFc (fun r u t H locs ht hvm hw hB hz1 hk1 hS => ?_)
  obtain ⟨q_1, rfl, rfl⟩ := hw
  obtain ⟨hP, hD, hK⟩ := tw_join (wr := [(mm, .inr (10, [.int 0, .int 9, .int 0, .int 99, .ref c2, .ref ps2, .ref pr, .int 0, .int 0, .int ((-1)), .ref l2, .long 0]))]) hP hD hK [1] [0] rfl rfl (by decide) (by decide) hk1 hFc ht hvm hB
  have hP : va_P D vwCl [(mm, .inr (10, [.int 0, .int 9, .int 0, .int 99, .ref c2, .ref ps2, .ref pr, .int 0, .int 0, .int ((-1)), .ref l2, .long 0])), (q_1, .inr (2, [.int 0, .int ((-1)), .int 0, .ref c2])), (c2, .inr (3, [.int 0, .ref em, .int 0]))] _ := hP
  have hD : va_D A [(mm, .inr (10, [.int 0, .int 9, .int 0, .int 99, .ref c2, .ref ps2, .ref pr, .int 0, .int 0, .int ((-1)), .ref l2, .long 0])), (q_1, .inr (2, [.int 0, .int ((-1)), .int 0, .ref c2])), (c2, .inr (3, [.int 0, .ref em, .int 0]))] := hD
  have hK : va_K D vwCl [] s := hK
  refine W.widen (k := 1) (n := 4) (Nat.le_refl _) (Nat.le_refl _) ?_
  refine W.eq (g2 := F0 m 31 ls [.ref q_1]) rfl ?_
  refine lv_astore_n (lv' := [(2, .ref q_1), (1, .int 0), (0, .ref mm)]) hx hb dX6_clear_31 rfl hl (by decide) rfl (fun ls hl => ?_)
  refine lv_aload_n hx hb dX6_clear_32 rfl (lv_at hl 0 rfl) ?_
  have hPc := hP.sub (ws' := [(q_1, .inr (2, [.int 0, .int ((-1)), .int 0, .ref c2])), (c2, .inr (3, [.int 0, .ref em, .int 0]))]) [1, 2] rfl
  have hDc := hD.sub (ws' := [(q_1, .inr (2, [.int 0, .int ((-1)), .int 0, .ref c2])), (c2, .inr (3, [.int 0, .ref em, .int 0]))]) [1, 2] (by decide) rfl
  have hKc := hK.sub (tys' := []) [] rfl
  have hFc := va_free (wc := [(q_1, .inr (2, [.int 0, .int ((-1)), .int 0, .ref c2])), (c2, .inr (3, [.int 0, .ref em, .int 0]))]) hD hS hA [1, 2] rfl
  refine va_callFi (va_runF (hKc.1 2 _ rfl).2 (As := []) (rest := []) ⟨hx, hb, hml, hown, hts⟩ (c_Jx35411_hasNext_aae02 l hst em kw kb D q_1 c2 em _) (va_cwF 0 hts gX6_clear_Jx35411_hasNext_aae02_f64Jx35411 rfl rfl rfl (tw_fw hF) (by decide +kernel) ⟨(Nat.le_of_ble_eq_true rfl), (Nat.le_of_ble_eq_true rfl)⟩) (tw_preV hF hS hFc hPc hKc hDc (va_recv hKc hPc (ci := 2) (q0 := 0) rfl rfl)) rfl rfl hl.1 rfl (lv_room (Nat.le_of_ble_eq_true rfl)) dX6_clear_33 ⟨(Nat.le_of_ble_eq_true rfl), (Nat.le_of_ble_eq_true rfl)⟩) hS (fun q _ h => hFc q h) hFc (fun r u t H locs ht hvm hw hB hz1 hk1 hS => ?_)
  obtain ⟨rfl, rfl⟩ := hw
  obtain ⟨hP, hD, hK⟩ := tw_join (wr := [(mm, .inr (10, [.int 0, .int 9, .int 0, .int 99, .ref c2, .ref ps2, .ref pr, .int 0, .int 0, .int ((-1)), .ref l2, .long 0]))]) hP hD hK [1, 2] [0] rfl rfl (by decide) (by decide) hk1 hFc ht hvm hB
  have hP : va_P D vwCl [(mm, .inr (10, [.int 0, .int 9, .int 0, .int 99, .ref c2, .ref ps2, .ref pr, .int 0, .int 0, .int ((-1)), .ref l2, .long 0])), (q_1, .inr (2, [.int 0, .int ((-1)), .int 0, .ref c2])), (c2, .inr (3, [.int 0, .ref em, .int 0]))] _ := hP
  have hD : va_D A [(mm, .inr (10, [.int 0, .int 9, .int 0, .int 99, .ref c2, .ref ps2, .ref pr, .int 0, .int 0, .int ((-1)), .ref l2, .long 0])), (q_1, .inr (2, [.int 0, .int ((-1)), .int 0, .ref c2])), (c2, .inr (3, [.int 0, .ref em, .int 0]))] := hD
  have hK : va_K D vwCl [] s := hK
  refine W.widen (k := 1) (n := 4) (Nat.le_refl _) (Nat.le_refl _) ?_
  refine W.eq (g2 := F0 m 38 ls [.int 0]) rfl ?_
  refine lv_if_eq (tgt := 70) hx hb dX6_clear_38 (by decide) (fun c9 => ?_) (fun c9 => absurd c9 (by decide))
  refine lv_iload_n hx hb dX6_clear_70 rfl (lv_at hl 1 rfl) ?_
  refine W.widen (k := 1) (n := 4) (Nat.le_of_ble_eq_true rfl) (Nat.le_of_ble_eq_true rfl) ?_
  have hP9 := hP.sub (ws' := [(mm, .inr (10, [.int 0, .int 9, .int 0, .int 99, .ref c2, .ref ps2, .ref pr, .int 0, .int 0, .int ((-1)), .ref l2, .long 0]))]) [0] rfl
  have hD9 := hD.sub (ws' := [(mm, .inr (10, [.int 0, .int 9, .int 0, .int 99, .ref c2, .ref ps2, .ref pr, .int 0, .int 0, .int ((-1)), .ref l2, .long 0]))]) [0] (by decide) rfl
  have hK9 := hK.sub (tys' := []) [] rfl
  exact W.zret (v := 0) (ty := .boolean) hx hb hr (by decide) (fun t ht hW => ⟨⟨0, ([(mm, .inr (10, [.int 0, .int 9, .int 0, .int 99, .ref c2, .ref ps2, .ref pr, .int 0, .int 0, .int ((-1)), .ref l2, .long 0]))], []), rfl, ⟨rfl, rfl⟩, by rw [ht]; exact hP9, va_K.moved hW.alike hK9, hD9⟩, hS.F ht⟩) hS.2.2 dX6_clear_71
set_option maxHeartbeats 4000000 in
set_option maxRecDepth 100000 in
theorem c_X6_quake (l : Launch) (hst : l.stackTraces = false) (em kw kb : Nat) (D : va_G) (mm : Nat) (p0 : Int32) (c2 : Nat) (ps2 : Nat) (pr : Nat) (l2 : Nat) (sz : Nat) : Met l yX6_quake wsX6_quake ({ frames := 1, cells := 0, slots := 0, locals := 22 }) (va_Pc [.ref mm, .int p0] (tw_Pre em kw kb D sz [(mm, .inr (10, [.int 0, .int 9, .int 0, .int 99, .ref c2, .ref ps2, .ref pr, .int 0, .int 0, .int ((-1)), .ref l2, .long 0]))] [])) (va_Qi (fun (r : Int32) (u : tw_U) => ((((p0 < 0) ∨ (¬ p0 < 0 ∧ 99 < p0))) ∧ r = 0 ∧ u = ([(mm, .inr (10, [.int 1, .int 9, .int 0, .int 99, .ref c2, .ref ps2, .ref pr, .int 0, .int 0, .int ((-1)), .ref l2, .long 0]))], [])) ∨ (((¬ p0 < 0 ∧ ¬ 99 < p0)) ∧ r = ((5 : Int32) + p0) ∧ u = ([(mm, .inr (10, [.int 0, .int 9, .int 0, .int 99, .ref c2, .ref ps2, .ref pr, .int 5, .int (((5 : Int32) + p0)), .int ((-1)), .ref l2, .long 0]))], []))) (tw_B D (va_A [(mm, .inr (10, [.int 0, .int 9, .int 0, .int 99, .ref c2, .ref ps2, .ref pr, .int 0, .int 0, .int ((-1)), .ref l2, .long 0]))] sz)) (va_A [(mm, .inr (10, [.int 0, .int 9, .int 0, .int 99, .ref c2, .ref ps2, .ref pr, .int 0, .int 0, .int ((-1)), .ref l2, .long 0]))] sz)) 0 0 (va_A [(mm, .inr (10, [.int 0, .int 9, .int 0, .int 99, .ref c2, .ref ps2, .ref pr, .int 0, .int 0, .int ((-1)), .ref l2, .long 0]))] sz) := by
  refine Met.ofW (cc := cX6_quake) (maxL := 2) (ret := (some .int)) (by decide) rfl ?_
  intro p e s m args below meth c s₁ B hml hv
  obtain ⟨rfl, hsz, hP, hK, hD0, hF⟩ := hv
  have hx := B.exec
  have hb := B.bytes
  have hr := B.returns
  have hts := atoms_spec (ws := wsX6_quake) B.pre
  have hown : s.vm.findClass RX6 = some m.cls := findClass_of_methodNamed B.named
  have hlocks := B.notSynchronized
  have hiRX6 : ∀ w ∈ u_ws RX6 TX6 12, w ∈ wsX6_quake := by decide +kernel
  subst hsz
  have hD := hD0.self (sz := s.heap.size)
  generalize hAe : va_A [(mm, .inr (10, [.int 0, .int 9, .int 0, .int 99, .ref c2, .ref ps2, .ref pr, .int 0, .int 0, .int ((-1)), .ref l2, .long 0]))] s.heap.size = A at hD hF ⊢
  have hA : ∀ q : Nat, s.heap.size ≤ q → A q := fun q h => by rw [← hAe]; exact Or.inr h
  have hS : va_S A s.heap s.heap [] := va_S.rf
  have hP : va_P D vwCl [(mm, .inr (10, [.int 0, .int 9, .int 0, .int 99, .ref c2, .ref ps2, .ref pr, .int 0, .int 0, .int ((-1)), .ref l2, .long 0]))] s.heap := hP
  have hl := lv_entry ([.ref mm, .int p0]) (n := 2) (Nat.le_of_ble_eq_true rfl)
  rw [lg_entry_eq]
  generalize (lg_sl ([.ref mm, .int p0]) ++ List.replicate (2 - (lg_sl ([.ref mm, .int p0])).length) Slot.unset).toArray = ls at hl ⊢
  have hl : lv_has ls 2 [(0, .ref mm), (1, .int p0)] := hl
  refine lv_iload_n hx hb dX6_quake_0 rfl (lv_at hl 1 rfl) ?_
  refine lv_iconst (v := 0) hx hb dX6_quake_1 (by decide) ?_
  refine lv_bipush (v := 99) hx hb dX6_quake_2 (by decide) ?_
  have hPc := hP.sub (ws' := []) [] rfl
  have hDc := hD.sub (ws' := []) [] (by decide) rfl
  have hKc := hK.sub (tys' := []) [] rfl
  have hFc := va_free (wc := []) hD hS hA [] rfl
  refine va_calli (va_runS (As := [.int p0, .int 0, .int 99]) (rest := []) ⟨hx, hb, hml, hown, hts⟩ (c_X6_in l hst em kw kb D p0 0 99 _) (va_cwS 3 hts gX6_quake_X6_in rfl rfl rfl (by decide +kernel) ⟨(Nat.le_of_ble_eq_true rfl), (Nat.le_of_ble_eq_true rfl)⟩) (tw_preS hF hS hFc hPc hKc hDc) rfl rfl hl.1 rfl (lv_room (Nat.le_of_ble_eq_true rfl)) dX6_quake_4 ⟨(Nat.le_of_ble_eq_true rfl), (Nat.le_of_ble_eq_true rfl)⟩) hS (fun q _ h => hFc q h) hFc (fun r u t H locs ht hvm hw hB hz1 hk1 hS => ?_)
  rcases hw with hw | hw
  · obtain ⟨g_1, rfl, rfl⟩ := hw
    obtain ⟨hP, hD, hK⟩ := tw_join (wr := [(mm, .inr (10, [.int 0, .int 9, .int 0, .int 99, .ref c2, .ref ps2, .ref pr, .int 0, .int 0, .int ((-1)), .ref l2, .long 0]))]) hP hD hK [] [0] rfl rfl (by decide) (by decide) hk1 hFc ht hvm hB
    have hP : va_P D vwCl [(mm, .inr (10, [.int 0, .int 9, .int 0, .int 99, .ref c2, .ref ps2, .ref pr, .int 0, .int 0, .int ((-1)), .ref l2, .long 0]))] _ := hP
    have hD : va_D A [(mm, .inr (10, [.int 0, .int 9, .int 0, .int 99, .ref c2, .ref ps2, .ref pr, .int 0, .int 0, .int ((-1)), .ref l2, .long 0]))] := hD
    have hK : va_K D vwCl [] s := hK
    refine W.widen (k := 0) (n := 0) (Nat.le_refl _) (Nat.le_refl _) ?_
    refine W.eq (g2 := F0 m 7 ls [.int 0]) rfl ?_
    refine lv_if_ne (tgt := 16) hx hb dX6_quake_7 (by decide) (fun c9 => absurd c9 (by decide)) (fun c9 => ?_)
    refine lv_aload_n hx hb dX6_quake_10 rfl (lv_at hl 0 rfl) ?_
    refine lv_iconst (v := 1) hx hb dX6_quake_11 (by decide) ?_
    have hPc := hP.sub (ws' := [(mm, .inr (10, [.int 0, .int 9, .int 0, .int 99, .ref c2, .ref ps2, .ref pr, .int 0, .int 0, .int ((-1)), .ref l2, .long 0]))]) [0] rfl
    have hDc := hD.sub (ws' := [(mm, .inr (10, [.int 0, .int 9, .int 0, .int 99, .ref c2, .ref ps2, .ref pr, .int 0, .int 0, .int ((-1)), .ref l2, .long 0]))]) [0] (by decide) rfl
    have hKc := hK.sub (tys' := []) [] rfl
    have hFc := va_free (wc := [(mm, .inr (10, [.int 0, .int 9, .int 0, .int 99, .ref c2, .ref ps2, .ref pr, .int 0, .int 0, .int ((-1)), .ref l2, .long 0]))]) hD hS hA [0] rfl
    refine va_calli (va_runV (As := [.int 1]) (rest := []) ⟨hx, hb, hml, hown, hts⟩ (c_X6_fails l hst em kw kb D mm 1 0 9 0 99 c2 ps2 pr 0 0 ((-1)) l2 0 _) (cwV 1 hts gX6_quake_X6_fails rfl rfl rfl (by decide +kernel) ⟨(Nat.le_of_ble_eq_true rfl), (Nat.le_of_ble_eq_true rfl)⟩) (tw_preV hF hS hFc hPc hKc hDc (va_recv hKc hPc (ci := 10) (q0 := 0) rfl rfl)) rfl rfl hl.1 rfl (lv_room (Nat.le_of_ble_eq_true rfl)) dX6_quake_12 ⟨(Nat.le_of_ble_eq_true rfl), (Nat.le_of_ble_eq_true rfl)⟩) hS (fun q _ h => hFc q h) hFc (fun r u t H locs ht hvm hw hB hz1 hk1 hS => ?_)
    obtain ⟨rfl, rfl⟩ := hw
    obtain ⟨hP, hD, hK⟩ := tw_join (wr := []) hP hD hK [0] [] rfl rfl (by decide) (by decide) hk1 hFc ht hvm hB
    have hP : va_P D vwCl [(mm, .inr (10, [.int 1, .int 9, .int 0, .int 99, .ref c2, .ref ps2, .ref pr, .int 0, .int 0, .int ((-1)), .ref l2, .long 0]))] _ := hP
    have hD : va_D A [(mm, .inr (10, [.int 1, .int 9, .int 0, .int 99, .ref c2, .ref ps2, .ref pr, .int 0, .int 0, .int ((-1)), .ref l2, .long 0]))] := hD
    have hK : va_K D vwCl [] s := hK
    refine W.widen (k := 0) (n := 0) (Nat.le_refl _) (Nat.le_refl _) ?_
    refine W.eq (g2 := F0 m 15 ls [.int 0]) rfl ?_
    refine W.widen (k := 0) (n := 0) (Nat.le_of_ble_eq_true rfl) (Nat.le_of_ble_eq_true rfl) ?_
    have hP9 := hP.sub (ws' := [(mm, .inr (10, [.int 1, .int 9, .int 0, .int 99, .ref c2, .ref ps2, .ref pr, .int 0, .int 0, .int ((-1)), .ref l2, .long 0]))]) [0] rfl
    have hD9 := hD.sub (ws' := [(mm, .inr (10, [.int 1, .int 9, .int 0, .int 99, .ref c2, .ref ps2, .ref pr, .int 0, .int 0, .int ((-1)), .ref l2, .long 0]))]) [0] (by decide) rfl
    have hK9 := hK.sub (tys' := []) [] rfl
    exact W.iret (v := 0) hx hb hr (fun t ht hW => ⟨⟨0, ([(mm, .inr (10, [.int 1, .int 9, .int 0, .int 99, .ref c2, .ref ps2, .ref pr, .int 0, .int 0, .int ((-1)), .ref l2, .long 0]))], []), rfl, (Or.inl ⟨g_1, rfl, rfl⟩), by rw [ht]; exact hP9, va_K.moved hW.alike hK9, hD9⟩, hS.F ht⟩) hS.2.2 dX6_quake_15
  · obtain ⟨g_2, rfl, rfl⟩ := hw
    obtain ⟨hP, hD, hK⟩ := tw_join (wr := [(mm, .inr (10, [.int 0, .int 9, .int 0, .int 99, .ref c2, .ref ps2, .ref pr, .int 0, .int 0, .int ((-1)), .ref l2, .long 0]))]) hP hD hK [] [0] rfl rfl (by decide) (by decide) hk1 hFc ht hvm hB
    have hP : va_P D vwCl [(mm, .inr (10, [.int 0, .int 9, .int 0, .int 99, .ref c2, .ref ps2, .ref pr, .int 0, .int 0, .int ((-1)), .ref l2, .long 0]))] _ := hP
    have hD : va_D A [(mm, .inr (10, [.int 0, .int 9, .int 0, .int 99, .ref c2, .ref ps2, .ref pr, .int 0, .int 0, .int ((-1)), .ref l2, .long 0]))] := hD
    have hK : va_K D vwCl [] s := hK
    refine W.widen (k := 0) (n := 0) (Nat.le_refl _) (Nat.le_refl _) ?_
    refine W.eq (g2 := F0 m 7 ls [.int 1]) rfl ?_
    refine lv_if_ne (tgt := 16) hx hb dX6_quake_7 (by decide) (fun c9 => ?_) (fun c9 => absurd c9 (by decide))
    refine lv_aload_n hx hb dX6_quake_16 rfl (lv_at hl 0 rfl) ?_
    refine lv_aload_n hx hb dX6_quake_17 rfl (lv_at hl 0 rfl) ?_
    refine va_get (D := D) (ci := 10) (v := .int 0) (C := RX6) (T := TX6) (N := 12) hx hb hts hiRX6 hown hK hP 0 rfl rfl 2 (by decide) (hts (.fieldLink RX6 179 "TowerliftryModel" "tick" "I") (by decide +kernel)) (fun _ h9 => h9) rfl dX6_quake_18 ?_
    refine lv_iconst (v := 5) hx hb dX6_quake_21 (by decide) ?_
    refine lv_iadd hx hb dX6_quake_22 ?_
    refine lv_topi (fun z_3 ez_3 => ?_)
    have ez_3 : z_3 = (5 : Int32) := ez_3.trans (by decide)
    subst ez_3
    refine va_put (D := D) (ci := 10) (v := .int 5) (ty := .int) (C := RX6) (T := TX6) (N := 12) hx hb hts hiRX6 tyX6 tyX6_ok nmX6 hown hK hP hD hS 0 rfl rfl 7 (by decide) (hts (.fieldLink RX6 190 "TowerliftryModel" "stillTo" "I") (by decide +kernel)) (fun _ h9 => h9) rfl (by decide +kernel) rfl rfl (Nat.le_of_ble_eq_true rfl) dX6_quake_23 (fun H locs hP hD hS => ?_)
    have hP : va_P D vwCl [(mm, .inr (10, [.int 0, .int 9, .int 0, .int 99, .ref c2, .ref ps2, .ref pr, .int 5, .int 0, .int ((-1)), .ref l2, .long 0]))] _ := hP
    have hD : va_D A [(mm, .inr (10, [.int 0, .int 9, .int 0, .int 99, .ref c2, .ref ps2, .ref pr, .int 5, .int 0, .int ((-1)), .ref l2, .long 0]))] := hD
    refine lv_aload_n hx hb dX6_quake_26 rfl (lv_at hl 0 rfl) ?_
    refine lv_aload_n hx hb dX6_quake_27 rfl (lv_at hl 0 rfl) ?_
    refine va_get (D := D) (ci := 10) (v := .int 5) (C := RX6) (T := TX6) (N := 12) hx hb hts hiRX6 hown hK hP 0 rfl rfl 7 (by decide) (hts (.fieldLink RX6 190 "TowerliftryModel" "stillTo" "I") (by decide +kernel)) (fun _ h9 => h9) rfl dX6_quake_28 ?_
    refine lv_iload_n hx hb dX6_quake_31 rfl (lv_at hl 1 rfl) ?_
    refine lv_iadd hx hb dX6_quake_32 ?_
    refine va_put (D := D) (ci := 10) (v := .int ((5 : Int32) + p0)) (ty := .int) (C := RX6) (T := TX6) (N := 12) hx hb hts hiRX6 tyX6 tyX6_ok nmX6 hown hK hP hD hS 0 rfl rfl 8 (by decide) (hts (.fieldLink RX6 210 "TowerliftryModel" "slowTo" "I") (by decide +kernel)) (fun _ h9 => h9) rfl (by decide +kernel) rfl rfl (Nat.le_of_ble_eq_true rfl) dX6_quake_33 (fun H locs hP hD hS => ?_)
    have hP : va_P D vwCl [(mm, .inr (10, [.int 0, .int 9, .int 0, .int 99, .ref c2, .ref ps2, .ref pr, .int 5, .int ((5 : Int32) + p0), .int ((-1)), .ref l2, .long 0]))] _ := hP
    have hD : va_D A [(mm, .inr (10, [.int 0, .int 9, .int 0, .int 99, .ref c2, .ref ps2, .ref pr, .int 5, .int ((5 : Int32) + p0), .int ((-1)), .ref l2, .long 0]))] := hD
    refine lv_aload_n hx hb dX6_quake_36 rfl (lv_at hl 0 rfl) ?_
    refine lv_aload_n hx hb dX6_quake_37 rfl (lv_at hl 0 rfl) ?_
    refine va_get (D := D) (ci := 10) (v := .int ((5 : Int32) + p0)) (C := RX6) (T := TX6) (N := 12) hx hb hts hiRX6 hown hK hP 0 rfl rfl 8 (by decide) (hts (.fieldLink RX6 210 "TowerliftryModel" "slowTo" "I") (by decide +kernel)) (fun _ h9 => h9) rfl dX6_quake_38 ?_
    have hPc := hP.sub (ws' := [(mm, .inr (10, [.int 0, .int 9, .int 0, .int 99, .ref c2, .ref ps2, .ref pr, .int 5, .int ((5 : Int32) + p0), .int ((-1)), .ref l2, .long 0]))]) [0] rfl
    have hDc := hD.sub (ws' := [(mm, .inr (10, [.int 0, .int 9, .int 0, .int 99, .ref c2, .ref ps2, .ref pr, .int 5, .int ((5 : Int32) + p0), .int ((-1)), .ref l2, .long 0]))]) [0] (by decide) rfl
    have hKc := hK.sub (tys' := []) [] rfl
    have hFc := va_free (wc := [(mm, .inr (10, [.int 0, .int 9, .int 0, .int 99, .ref c2, .ref ps2, .ref pr, .int 5, .int ((5 : Int32) + p0), .int ((-1)), .ref l2, .long 0]))]) hD hS hA [0] rfl
    refine va_calli (va_runV (As := [.int ((5 : Int32) + p0)]) (rest := []) ⟨hx, hb, hml, hown, hts⟩ (c_X6_tells l hst em kw kb D mm ((5 : Int32) + p0) 0 9 0 99 c2 ps2 pr 5 ((5 : Int32) + p0) ((-1)) l2 0 _) (cwV 1 hts gX6_quake_X6_tells rfl rfl rfl (by decide +kernel) ⟨(Nat.le_of_ble_eq_true rfl), (Nat.le_of_ble_eq_true rfl)⟩) (tw_preV hF hS hFc hPc hKc hDc (va_recv hKc hPc (ci := 10) (q0 := 0) rfl rfl)) rfl rfl hl.1 rfl (lv_room (Nat.le_of_ble_eq_true rfl)) dX6_quake_41 ⟨(Nat.le_of_ble_eq_true rfl), (Nat.le_of_ble_eq_true rfl)⟩) hS (fun q _ h => hFc q h) hFc (fun r u t H locs ht hvm hw hB hz1 hk1 hS => ?_)
    obtain ⟨rfl, rfl⟩ := hw
    obtain ⟨hP, hD, hK⟩ := tw_join (wr := []) hP hD hK [0] [] rfl rfl (by decide) (by decide) hk1 hFc ht hvm hB
    have hP : va_P D vwCl [(mm, .inr (10, [.int 0, .int 9, .int 0, .int 99, .ref c2, .ref ps2, .ref pr, .int 5, .int (((5 : Int32) + p0)), .int ((-1)), .ref l2, .long 0]))] _ := hP
    have hD : va_D A [(mm, .inr (10, [.int 0, .int 9, .int 0, .int 99, .ref c2, .ref ps2, .ref pr, .int 5, .int (((5 : Int32) + p0)), .int ((-1)), .ref l2, .long 0]))] := hD
    have hK : va_K D vwCl [] s := hK
    refine W.widen (k := 0) (n := 0) (Nat.le_refl _) (Nat.le_refl _) ?_
    refine W.eq (g2 := F0 m 44 ls [.int (((5 : Int32) + p0))]) rfl ?_
    refine W.widen (k := 0) (n := 0) (Nat.le_of_ble_eq_true rfl) (Nat.le_of_ble_eq_true rfl) ?_
    have hP9 := hP.sub (ws' := [(mm, .inr (10, [.int 0, .int 9, .int 0, .int 99, .ref c2, .ref ps2, .ref pr, .int 5, .int (((5 : Int32) + p0)), .int ((-1)), .ref l2, .long 0]))]) [0] rfl
    have hD9 := hD.sub (ws' := [(mm, .inr (10, [.int 0, .int 9, .int 0, .int 99, .ref c2, .ref ps2, .ref pr, .int 5, .int (((5 : Int32) + p0)), .int ((-1)), .ref l2, .long 0]))]) [0] (by decide) rfl
    have hK9 := hK.sub (tys' := []) [] rfl
    exact W.iret (v := ((5 : Int32) + p0)) hx hb hr (fun t ht hW => ⟨⟨((5 : Int32) + p0), ([(mm, .inr (10, [.int 0, .int 9, .int 0, .int 99, .ref c2, .ref ps2, .ref pr, .int 5, .int (((5 : Int32) + p0)), .int ((-1)), .ref l2, .long 0]))], []), rfl, (Or.inr (⟨g_2, rfl, rfl⟩)), by rw [ht]; exact hP9, va_K.moved hW.alike hK9, hD9⟩, hS.F ht⟩) hS.2.2 dX6_quake_44
set_option maxHeartbeats 4000000 in
set_option maxRecDepth 100000 in
theorem c_X6_energy (l : Launch) (hst : l.stackTraces = false) (em kw kb : Nat) (D : va_G) (mm : Nat) (c2 : Nat) (ps2 : Nat) (pr : Nat) (l2 : Nat) (sz : Nat) : Met l yX6_energy wsX6_energy ({ frames := 0, cells := 0, slots := 0, locals := 0 }) (va_Pc [.ref mm] (tw_Pre em kw kb D sz [(mm, .inr (10, [.int 0, .int 9, .int 0, .int 99, .ref c2, .ref ps2, .ref pr, .int 0, .int 0, .int ((-1)), .ref l2, .long 0]))] [])) (va_Ql (fun (r : Int64) (u : tw_U) => r = 0 ∧ u = ([(mm, .inr (10, [.int 0, .int 9, .int 0, .int 99, .ref c2, .ref ps2, .ref pr, .int 0, .int 0, .int ((-1)), .ref l2, .long 0]))], [])) (tw_B D (va_A [(mm, .inr (10, [.int 0, .int 9, .int 0, .int 99, .ref c2, .ref ps2, .ref pr, .int 0, .int 0, .int ((-1)), .ref l2, .long 0]))] sz)) (va_A [(mm, .inr (10, [.int 0, .int 9, .int 0, .int 99, .ref c2, .ref ps2, .ref pr, .int 0, .int 0, .int ((-1)), .ref l2, .long 0]))] sz)) 0 0 (va_A [(mm, .inr (10, [.int 0, .int 9, .int 0, .int 99, .ref c2, .ref ps2, .ref pr, .int 0, .int 0, .int ((-1)), .ref l2, .long 0]))] sz) := by
  refine Met.ofW (cc := cX6_energy) (maxL := 1) (ret := (some .long)) (by decide) rfl ?_
  intro p e s m args below meth c s₁ B hml hv
  obtain ⟨rfl, hsz, hP, hK, hD0, hF⟩ := hv
  have hx := B.exec
  have hb := B.bytes
  have hr := B.returns
  have hts := atoms_spec (ws := wsX6_energy) B.pre
  have hown : s.vm.findClass RX6 = some m.cls := findClass_of_methodNamed B.named
  have hlocks := B.notSynchronized
  have hiRX6 : ∀ w ∈ u_ws RX6 TX6 12, w ∈ wsX6_energy := by decide +kernel
  subst hsz
  have hD := hD0.self (sz := s.heap.size)
  generalize hAe : va_A [(mm, .inr (10, [.int 0, .int 9, .int 0, .int 99, .ref c2, .ref ps2, .ref pr, .int 0, .int 0, .int ((-1)), .ref l2, .long 0]))] s.heap.size = A at hD hF ⊢
  have hA : ∀ q : Nat, s.heap.size ≤ q → A q := fun q h => by rw [← hAe]; exact Or.inr h
  have hS : va_S A s.heap s.heap [] := va_S.rf
  have hP : va_P D vwCl [(mm, .inr (10, [.int 0, .int 9, .int 0, .int 99, .ref c2, .ref ps2, .ref pr, .int 0, .int 0, .int ((-1)), .ref l2, .long 0]))] s.heap := hP
  have hl := lv_entry ([.ref mm]) (n := 1) (Nat.le_of_ble_eq_true rfl)
  rw [lg_entry_eq]
  generalize (lg_sl ([.ref mm]) ++ List.replicate (1 - (lg_sl ([.ref mm])).length) Slot.unset).toArray = ls at hl ⊢
  have hl : lv_has ls 1 [(0, .ref mm)] := hl
  refine lv_aload_n hx hb dX6_energy_0 rfl (lv_at hl 0 rfl) ?_
  refine lv_iconst (v := 0) hx hb dX6_energy_1 (by decide) ?_
  refine va_put (D := D) (ci := 10) (v := .int 0) (ty := .int) (C := RX6) (T := TX6) (N := 12) hx hb hts hiRX6 tyX6 tyX6_ok nmX6 hown hK hP hD hS 0 rfl rfl 0 (by decide) (hts (.fieldLink RX6 38 "TowerliftryModel" "thrown" "I") (by decide +kernel)) (fun _ h9 => h9) rfl (by decide +kernel) rfl rfl (Nat.le_of_ble_eq_true rfl) dX6_energy_2 (fun H locs hP hD hS => ?_)
  have hP : va_P D vwCl [(mm, .inr (10, [.int 0, .int 9, .int 0, .int 99, .ref c2, .ref ps2, .ref pr, .int 0, .int 0, .int ((-1)), .ref l2, .long 0]))] _ := hP
  have hD : va_D A [(mm, .inr (10, [.int 0, .int 9, .int 0, .int 99, .ref c2, .ref ps2, .ref pr, .int 0, .int 0, .int ((-1)), .ref l2, .long 0]))] := hD
  refine lv_aload_n hx hb dX6_energy_5 rfl (lv_at hl 0 rfl) ?_
  refine va_get (D := D) (ci := 10) (v := .long 0) (C := RX6) (T := TX6) (N := 12) hx hb hts hiRX6 hown hK hP 0 rfl rfl 11 (by decide) (hts (.fieldLink RX6 270 "TowerliftryModel" "energy" "J") (by decide +kernel)) (fun _ h9 => h9) rfl dX6_energy_6 ?_
  refine W.widen (k := 0) (n := 0) (Nat.le_of_ble_eq_true rfl) (Nat.le_of_ble_eq_true rfl) ?_
  have hP9 := hP.sub (ws' := [(mm, .inr (10, [.int 0, .int 9, .int 0, .int 99, .ref c2, .ref ps2, .ref pr, .int 0, .int 0, .int ((-1)), .ref l2, .long 0]))]) [0] rfl
  have hD9 := hD.sub (ws' := [(mm, .inr (10, [.int 0, .int 9, .int 0, .int 99, .ref c2, .ref ps2, .ref pr, .int 0, .int 0, .int ((-1)), .ref l2, .long 0]))]) [0] (by decide) rfl
  have hK9 := hK.sub (tys' := []) [] rfl
  exact W.lret (v := 0) hx hb hr (fun t ht hW => ⟨⟨0, ([(mm, .inr (10, [.int 0, .int 9, .int 0, .int 99, .ref c2, .ref ps2, .ref pr, .int 0, .int 0, .int ((-1)), .ref l2, .long 0]))], []), rfl, ⟨rfl, rfl⟩, by rw [ht]; exact hP9, va_K.moved hW.alike hK9, hD9⟩, hS.F ht⟩) hS.2.2 dX6_energy_9
set_option maxHeartbeats 4000000 in
set_option maxRecDepth 100000 in
theorem c_X6_entries (l : Launch) (hst : l.stackTraces = false) (em kw kb : Nat) (D : va_G) (mm : Nat) (c2 : Nat) (ps2 : Nat) (pr : Nat) (l2 : Nat) (sz : Nat) : Met l yX6_entries wsX6_entries ({ frames := 1, cells := 0, slots := 0, locals := 21 }) (va_Pc [.ref mm] (tw_Pre em kw kb D sz [(mm, .inr (10, [.int 0, .int 9, .int 0, .int 99, .ref c2, .ref ps2, .ref pr, .int 0, .int 0, .int ((-1)), .ref l2, .long 0])), (l2, .inr (3, [.int 0, .ref em, .int 0]))] [])) (va_Qi (fun (r : Int32) (u : tw_U) => r = 0 ∧ u = ([(mm, .inr (10, [.int 0, .int 9, .int 0, .int 99, .ref c2, .ref ps2, .ref pr, .int 0, .int 0, .int ((-1)), .ref l2, .long 0]))], [])) (tw_B D (va_A [(mm, .inr (10, [.int 0, .int 9, .int 0, .int 99, .ref c2, .ref ps2, .ref pr, .int 0, .int 0, .int ((-1)), .ref l2, .long 0])), (l2, .inr (3, [.int 0, .ref em, .int 0]))] sz)) (va_A [(mm, .inr (10, [.int 0, .int 9, .int 0, .int 99, .ref c2, .ref ps2, .ref pr, .int 0, .int 0, .int ((-1)), .ref l2, .long 0])), (l2, .inr (3, [.int 0, .ref em, .int 0]))] sz)) 0 0 (va_A [(mm, .inr (10, [.int 0, .int 9, .int 0, .int 99, .ref c2, .ref ps2, .ref pr, .int 0, .int 0, .int ((-1)), .ref l2, .long 0])), (l2, .inr (3, [.int 0, .ref em, .int 0]))] sz) := by
  refine Met.ofW (cc := cX6_entries) (maxL := 1) (ret := (some .int)) (by decide) rfl ?_
  intro p e s m args below meth c s₁ B hml hv
  obtain ⟨rfl, hsz, hP, hK, hD0, hF⟩ := hv
  have hx := B.exec
  have hb := B.bytes
  have hr := B.returns
  have hts := atoms_spec (ws := wsX6_entries) B.pre
  have hown : s.vm.findClass RX6 = some m.cls := findClass_of_methodNamed B.named
  have hlocks := B.notSynchronized
  have hiRX6 : ∀ w ∈ u_ws RX6 TX6 12, w ∈ wsX6_entries := by decide +kernel
  subst hsz
  have hD := hD0.self (sz := s.heap.size)
  generalize hAe : va_A [(mm, .inr (10, [.int 0, .int 9, .int 0, .int 99, .ref c2, .ref ps2, .ref pr, .int 0, .int 0, .int ((-1)), .ref l2, .long 0])), (l2, .inr (3, [.int 0, .ref em, .int 0]))] s.heap.size = A at hD hF ⊢
  have hA : ∀ q : Nat, s.heap.size ≤ q → A q := fun q h => by rw [← hAe]; exact Or.inr h
  have hS : va_S A s.heap s.heap [] := va_S.rf
  have hP : va_P D vwCl [(mm, .inr (10, [.int 0, .int 9, .int 0, .int 99, .ref c2, .ref ps2, .ref pr, .int 0, .int 0, .int ((-1)), .ref l2, .long 0])), (l2, .inr (3, [.int 0, .ref em, .int 0]))] s.heap := hP
  have hl := lv_entry ([.ref mm]) (n := 1) (Nat.le_of_ble_eq_true rfl)
  rw [lg_entry_eq]
  generalize (lg_sl ([.ref mm]) ++ List.replicate (1 - (lg_sl ([.ref mm])).length) Slot.unset).toArray = ls at hl ⊢
  have hl : lv_has ls 1 [(0, .ref mm)] := hl
  refine lv_aload_n hx hb dX6_entries_0 rfl (lv_at hl 0 rfl) ?_
  refine lv_aload_n hx hb dX6_entries_1 rfl (lv_at hl 0 rfl) ?_
  refine va_get (D := D) (ci := 10) (v := .ref l2) (C := RX6) (T := TX6) (N := 12) hx hb hts hiRX6 hown hK hP 0 rfl rfl 10 (by decide) (hts (.fieldLink RX6 35 "TowerliftryModel" "log" "Ljava/util/ArrayList;") (by decide +kernel)) (fun _ h9 => h9) rfl dX6_entries_2 ?_
  have hPc := hP.sub (ws' := [(l2, .inr (3, [.int 0, .ref em, .int 0]))]) [1] rfl
  have hDc := hD.sub (ws' := [(l2, .inr (3, [.int 0, .ref em, .int 0]))]) [1] (by decide) rfl
  have hKc := hK.sub (tys' := []) [] rfl
  have hFc := va_free (wc := [(l2, .inr (3, [.int 0, .ref em, .int 0]))]) hD hS hA [1] rfl
  refine va_calli (va_runV (As := []) (rest := [.ref mm]) ⟨hx, hb, hml, hown, hts⟩ (c_size0 l hst em kw kb D l2 em _) (cwV 0 hts gX6_entries_Jx4a65c_size_8abf5 rfl rfl rfl (by decide +kernel) ⟨(Nat.le_of_ble_eq_true rfl), (Nat.le_of_ble_eq_true rfl)⟩) (tw_preV hF hS hFc hPc hKc hDc (va_recv hKc hPc (ci := 3) (q0 := 0) rfl rfl)) rfl rfl hl.1 rfl (lv_room (Nat.le_of_ble_eq_true rfl)) dX6_entries_5 ⟨(Nat.le_of_ble_eq_true rfl), (Nat.le_of_ble_eq_true rfl)⟩) hS (fun q _ h => hFc q h) hFc (fun r u t H locs ht hvm hw hB hz1 hk1 hS => ?_)
  obtain ⟨rfl, rfl⟩ := hw
  obtain ⟨hP, hD, hK⟩ := tw_join (wr := [(mm, .inr (10, [.int 0, .int 9, .int 0, .int 99, .ref c2, .ref ps2, .ref pr, .int 0, .int 0, .int ((-1)), .ref l2, .long 0]))]) hP hD hK [1] [0] rfl rfl (by decide) (by decide) hk1 hFc ht hvm hB
  have hP : va_P D vwCl [(mm, .inr (10, [.int 0, .int 9, .int 0, .int 99, .ref c2, .ref ps2, .ref pr, .int 0, .int 0, .int ((-1)), .ref l2, .long 0])), (l2, .inr (3, [.int 0, .ref em, .int 0]))] _ := hP
  have hD : va_D A [(mm, .inr (10, [.int 0, .int 9, .int 0, .int 99, .ref c2, .ref ps2, .ref pr, .int 0, .int 0, .int ((-1)), .ref l2, .long 0])), (l2, .inr (3, [.int 0, .ref em, .int 0]))] := hD
  have hK : va_K D vwCl [] s := hK
  refine W.widen (k := 0) (n := 0) (Nat.le_refl _) (Nat.le_refl _) ?_
  refine W.eq (g2 := F0 m 8 ls [.int 0, .ref mm]) rfl ?_
  have hPc := hP.sub (ws' := [(mm, .inr (10, [.int 0, .int 9, .int 0, .int 99, .ref c2, .ref ps2, .ref pr, .int 0, .int 0, .int ((-1)), .ref l2, .long 0]))]) [0] rfl
  have hDc := hD.sub (ws' := [(mm, .inr (10, [.int 0, .int 9, .int 0, .int 99, .ref c2, .ref ps2, .ref pr, .int 0, .int 0, .int ((-1)), .ref l2, .long 0]))]) [0] (by decide) rfl
  have hKc := hK.sub (tys' := []) [] rfl
  have hFc := va_free (wc := [(mm, .inr (10, [.int 0, .int 9, .int 0, .int 99, .ref c2, .ref ps2, .ref pr, .int 0, .int 0, .int ((-1)), .ref l2, .long 0]))]) hD hS hA [0] rfl
  refine va_calli (va_runV (As := [.int 0]) (rest := []) ⟨hx, hb, hml, hown, hts⟩ (c_X6_tells l hst em kw kb D mm 0 0 9 0 99 c2 ps2 pr 0 0 ((-1)) l2 0 _) (cwV 1 hts gX6_entries_X6_tells rfl rfl rfl (by decide +kernel) ⟨(Nat.le_of_ble_eq_true rfl), (Nat.le_of_ble_eq_true rfl)⟩) (tw_preV hF hS hFc hPc hKc hDc (va_recv hKc hPc (ci := 10) (q0 := 0) rfl rfl)) rfl rfl hl.1 rfl (lv_room (Nat.le_of_ble_eq_true rfl)) dX6_entries_8 ⟨(Nat.le_of_ble_eq_true rfl), (Nat.le_of_ble_eq_true rfl)⟩) hS (fun q _ h => hFc q h) hFc (fun r u t H locs ht hvm hw hB hz1 hk1 hS => ?_)
  obtain ⟨rfl, rfl⟩ := hw
  obtain ⟨hP, hD, hK⟩ := tw_join (wr := [(l2, .inr (3, [.int 0, .ref em, .int 0]))]) hP hD hK [0] [1] rfl rfl (by decide) (by decide) hk1 hFc ht hvm hB
  have hP : va_P D vwCl [(l2, .inr (3, [.int 0, .ref em, .int 0])), (mm, .inr (10, [.int 0, .int 9, .int 0, .int 99, .ref c2, .ref ps2, .ref pr, .int 0, .int 0, .int ((-1)), .ref l2, .long 0]))] _ := hP
  have hD : va_D A [(l2, .inr (3, [.int 0, .ref em, .int 0])), (mm, .inr (10, [.int 0, .int 9, .int 0, .int 99, .ref c2, .ref ps2, .ref pr, .int 0, .int 0, .int ((-1)), .ref l2, .long 0]))] := hD
  have hK : va_K D vwCl [] s := hK
  refine W.widen (k := 0) (n := 0) (Nat.le_refl _) (Nat.le_refl _) ?_
  refine W.eq (g2 := F0 m 11 ls [.int 0]) rfl ?_
  refine W.widen (k := 0) (n := 0) (Nat.le_of_ble_eq_true rfl) (Nat.le_of_ble_eq_true rfl) ?_
  have hP9 := hP.sub (ws' := [(mm, .inr (10, [.int 0, .int 9, .int 0, .int 99, .ref c2, .ref ps2, .ref pr, .int 0, .int 0, .int ((-1)), .ref l2, .long 0]))]) [1] rfl
  have hD9 := hD.sub (ws' := [(mm, .inr (10, [.int 0, .int 9, .int 0, .int 99, .ref c2, .ref ps2, .ref pr, .int 0, .int 0, .int ((-1)), .ref l2, .long 0]))]) [1] (by decide) rfl
  have hK9 := hK.sub (tys' := []) [] rfl
  exact W.iret (v := 0) hx hb hr (fun t ht hW => ⟨⟨0, ([(mm, .inr (10, [.int 0, .int 9, .int 0, .int 99, .ref c2, .ref ps2, .ref pr, .int 0, .int 0, .int ((-1)), .ref l2, .long 0]))], []), rfl, ⟨rfl, rfl⟩, by rw [ht]; exact hP9, va_K.moved hW.alike hK9, hD9⟩, hS.F ht⟩) hS.2.2 dX6_entries_11
set_option maxHeartbeats 4000000 in
set_option maxRecDepth 100000 in
theorem c_X6_entryAt (l : Launch) (hst : l.stackTraces = false) (em kw kb : Nat) (D : va_G) (mm : Nat) (p0 : Int32) (c2 : Nat) (ps2 : Nat) (pr : Nat) (l2 : Nat) (sz : Nat) : Met l yX6_entryAt wsX6_entryAt ({ frames := 2, cells := 0, slots := 0, locals := 43 }) (va_Pc [.ref mm, .int p0] (tw_Pre em kw kb D sz [(mm, .inr (10, [.int 0, .int 9, .int 0, .int 99, .ref c2, .ref ps2, .ref pr, .int 0, .int 0, .int ((-1)), .ref l2, .long 0])), (l2, .inr (3, [.int 0, .ref em, .int 0]))] [])) (va_Qi (fun (r : Int32) (u : tw_U) => r = 32 ∧ u = ([(mm, .inr (10, [.int 1, .int 9, .int 0, .int 99, .ref c2, .ref ps2, .ref pr, .int 0, .int 0, .int ((-1)), .ref l2, .long 0]))], [])) (tw_B D (va_A [(mm, .inr (10, [.int 0, .int 9, .int 0, .int 99, .ref c2, .ref ps2, .ref pr, .int 0, .int 0, .int ((-1)), .ref l2, .long 0])), (l2, .inr (3, [.int 0, .ref em, .int 0]))] sz)) (va_A [(mm, .inr (10, [.int 0, .int 9, .int 0, .int 99, .ref c2, .ref ps2, .ref pr, .int 0, .int 0, .int ((-1)), .ref l2, .long 0])), (l2, .inr (3, [.int 0, .ref em, .int 0]))] sz)) 0 0 (va_A [(mm, .inr (10, [.int 0, .int 9, .int 0, .int 99, .ref c2, .ref ps2, .ref pr, .int 0, .int 0, .int ((-1)), .ref l2, .long 0])), (l2, .inr (3, [.int 0, .ref em, .int 0]))] sz) := by
  refine Met.ofW (cc := cX6_entryAt) (maxL := 2) (ret := (some .char)) (by decide) rfl ?_
  intro p e s m args below meth c s₁ B hml hv
  obtain ⟨rfl, hsz, hP, hK, hD0, hF⟩ := hv
  have hx := B.exec
  have hb := B.bytes
  have hr := B.returns
  have hts := atoms_spec (ws := wsX6_entryAt) B.pre
  have hown : s.vm.findClass RX6 = some m.cls := findClass_of_methodNamed B.named
  have hlocks := B.notSynchronized
  have hiRX6 : ∀ w ∈ u_ws RX6 TX6 12, w ∈ wsX6_entryAt := by decide +kernel
  subst hsz
  have hD := hD0.self (sz := s.heap.size)
  generalize hAe : va_A [(mm, .inr (10, [.int 0, .int 9, .int 0, .int 99, .ref c2, .ref ps2, .ref pr, .int 0, .int 0, .int ((-1)), .ref l2, .long 0])), (l2, .inr (3, [.int 0, .ref em, .int 0]))] s.heap.size = A at hD hF ⊢
  have hA : ∀ q : Nat, s.heap.size ≤ q → A q := fun q h => by rw [← hAe]; exact Or.inr h
  have hS : va_S A s.heap s.heap [] := va_S.rf
  have hP : va_P D vwCl [(mm, .inr (10, [.int 0, .int 9, .int 0, .int 99, .ref c2, .ref ps2, .ref pr, .int 0, .int 0, .int ((-1)), .ref l2, .long 0])), (l2, .inr (3, [.int 0, .ref em, .int 0]))] s.heap := hP
  have hl := lv_entry ([.ref mm, .int p0]) (n := 2) (Nat.le_of_ble_eq_true rfl)
  rw [lg_entry_eq]
  generalize (lg_sl ([.ref mm, .int p0]) ++ List.replicate (2 - (lg_sl ([.ref mm, .int p0])).length) Slot.unset).toArray = ls at hl ⊢
  have hl : lv_has ls 2 [(0, .ref mm), (1, .int p0)] := hl
  refine lv_aload_n hx hb dX6_entryAt_0 rfl (lv_at hl 0 rfl) ?_
  refine lv_aload_n hx hb dX6_entryAt_1 rfl (lv_at hl 0 rfl) ?_
  refine lv_iload_n hx hb dX6_entryAt_2 rfl (lv_at hl 1 rfl) ?_
  have hPc := hP.sub (ws' := [(mm, .inr (10, [.int 0, .int 9, .int 0, .int 99, .ref c2, .ref ps2, .ref pr, .int 0, .int 0, .int ((-1)), .ref l2, .long 0])), (l2, .inr (3, [.int 0, .ref em, .int 0]))]) [0, 1] rfl
  have hDc := hD.sub (ws' := [(mm, .inr (10, [.int 0, .int 9, .int 0, .int 99, .ref c2, .ref ps2, .ref pr, .int 0, .int 0, .int ((-1)), .ref l2, .long 0])), (l2, .inr (3, [.int 0, .ref em, .int 0]))]) [0, 1] (by decide) rfl
  have hKc := hK.sub (tys' := []) [] rfl
  have hFc := va_free (wc := [(mm, .inr (10, [.int 0, .int 9, .int 0, .int 99, .ref c2, .ref ps2, .ref pr, .int 0, .int 0, .int ((-1)), .ref l2, .long 0])), (l2, .inr (3, [.int 0, .ref em, .int 0]))]) hD hS hA [0, 1] rfl
  refine va_calli (va_runV (As := [.int p0]) (rest := [.ref mm]) ⟨hx, hb, hml, hown, hts⟩ (c_X6_isEntry l hst em kw kb D mm p0 c2 ps2 pr l2 _) (cwV 1 hts gX6_entryAt_X6_isEntry rfl rfl rfl (by decide +kernel) ⟨(Nat.le_of_ble_eq_true rfl), (Nat.le_of_ble_eq_true rfl)⟩) (tw_preV hF hS hFc hPc hKc hDc (va_recv hKc hPc (ci := 10) (q0 := 0) rfl rfl)) rfl rfl hl.1 rfl (lv_room (Nat.le_of_ble_eq_true rfl)) dX6_entryAt_3 ⟨(Nat.le_of_ble_eq_true rfl), (Nat.le_of_ble_eq_true rfl)⟩) hS (fun q _ h => hFc q h) hFc (fun r u t H locs ht hvm hw hB hz1 hk1 hS => ?_)
  obtain ⟨rfl, rfl⟩ := hw
  obtain ⟨hP, hD, hK⟩ := tw_join (wr := []) hP hD hK [0, 1] [] rfl rfl (by decide) (by decide) hk1 hFc ht hvm hB
  have hP : va_P D vwCl [(mm, .inr (10, [.int 0, .int 9, .int 0, .int 99, .ref c2, .ref ps2, .ref pr, .int 0, .int 0, .int ((-1)), .ref l2, .long 0])), (l2, .inr (3, [.int 0, .ref em, .int 0]))] _ := hP
  have hD : va_D A [(mm, .inr (10, [.int 0, .int 9, .int 0, .int 99, .ref c2, .ref ps2, .ref pr, .int 0, .int 0, .int ((-1)), .ref l2, .long 0])), (l2, .inr (3, [.int 0, .ref em, .int 0]))] := hD
  have hK : va_K D vwCl [] s := hK
  refine W.widen (k := 0) (n := 0) (Nat.le_refl _) (Nat.le_refl _) ?_
  refine W.eq (g2 := F0 m 6 ls [.int 0, .ref mm]) rfl ?_
  refine lv_if_eq (tgt := 13) hx hb dX6_entryAt_6 (by decide) (fun c9 => ?_) (fun c9 => absurd c9 (by decide))
  refine lv_iconst (v := 1) hx hb dX6_entryAt_13 (by decide) ?_
  refine va_put (D := D) (ci := 10) (v := .int 1) (ty := .int) (C := RX6) (T := TX6) (N := 12) hx hb hts hiRX6 tyX6 tyX6_ok nmX6 hown hK hP hD hS 0 rfl rfl 0 (by decide) (hts (.fieldLink RX6 38 "TowerliftryModel" "thrown" "I") (by decide +kernel)) (fun _ h9 => h9) rfl (by decide +kernel) rfl rfl (Nat.le_of_ble_eq_true rfl) dX6_entryAt_14 (fun H locs hP hD hS => ?_)
  have hP : va_P D vwCl [(mm, .inr (10, [.int 1, .int 9, .int 0, .int 99, .ref c2, .ref ps2, .ref pr, .int 0, .int 0, .int ((-1)), .ref l2, .long 0])), (l2, .inr (3, [.int 0, .ref em, .int 0]))] _ := hP
  have hD : va_D A [(mm, .inr (10, [.int 1, .int 9, .int 0, .int 99, .ref c2, .ref ps2, .ref pr, .int 0, .int 0, .int ((-1)), .ref l2, .long 0])), (l2, .inr (3, [.int 0, .ref em, .int 0]))] := hD
  refine lv_aload_n hx hb dX6_entryAt_17 rfl (lv_at hl 0 rfl) ?_
  refine va_get (D := D) (ci := 10) (v := .int 1) (C := RX6) (T := TX6) (N := 12) hx hb hts hiRX6 hown hK hP 0 rfl rfl 0 (by decide) (hts (.fieldLink RX6 38 "TowerliftryModel" "thrown" "I") (by decide +kernel)) (fun _ h9 => h9) rfl dX6_entryAt_18 ?_
  refine lv_if_le (tgt := 29) hx hb dX6_entryAt_21 (by decide) (fun c9 => absurd c9 (by decide)) (fun c9 => ?_)
  refine lv_bipush (v := 32) hx hb dX6_entryAt_24 (by decide) ?_
  refine lv_goto (tgt := 43) hx hb dX6_entryAt_26 (by decide) ?_
  refine W.widen (k := 0) (n := 0) (Nat.le_of_ble_eq_true rfl) (Nat.le_of_ble_eq_true rfl) ?_
  have hP9 := hP.sub (ws' := [(mm, .inr (10, [.int 1, .int 9, .int 0, .int 99, .ref c2, .ref ps2, .ref pr, .int 0, .int 0, .int ((-1)), .ref l2, .long 0]))]) [0] rfl
  have hD9 := hD.sub (ws' := [(mm, .inr (10, [.int 1, .int 9, .int 0, .int 99, .ref c2, .ref ps2, .ref pr, .int 0, .int 0, .int ((-1)), .ref l2, .long 0]))]) [0] (by decide) rfl
  have hK9 := hK.sub (tys' := []) [] rfl
  exact W.zret (v := 32) (ty := .char) hx hb hr (by decide) (fun t ht hW => ⟨⟨32, ([(mm, .inr (10, [.int 1, .int 9, .int 0, .int 99, .ref c2, .ref ps2, .ref pr, .int 0, .int 0, .int ((-1)), .ref l2, .long 0]))], []), rfl, ⟨rfl, rfl⟩, by rw [ht]; exact hP9, va_K.moved hW.alike hK9, hD9⟩, hS.F ht⟩) hS.2.2 dX6_entryAt_43
set_option maxHeartbeats 4000000 in
set_option maxRecDepth 100000 in
theorem c_X6_entryOf (l : Launch) (hst : l.stackTraces = false) (em kw kb : Nat) (D : va_G) (mm : Nat) (p0 : Int32) (p1 : Int32) (c2 : Nat) (ps2 : Nat) (pr : Nat) (l2 : Nat) (sz : Nat) : Met l yX6_entryOf wsX6_entryOf ({ frames := 2, cells := 0, slots := 0, locals := 43 }) (va_Pc [.ref mm, .int p0, .int p1] (tw_Pre em kw kb D sz [(mm, .inr (10, [.int 0, .int 9, .int 0, .int 99, .ref c2, .ref ps2, .ref pr, .int 0, .int 0, .int ((-1)), .ref l2, .long 0])), (l2, .inr (3, [.int 0, .ref em, .int 0]))] [])) (va_Qi (fun (r : Int32) (u : tw_U) => r = 0 ∧ u = ([(mm, .inr (10, [.int 1, .int 9, .int 0, .int 99, .ref c2, .ref ps2, .ref pr, .int 0, .int 0, .int ((-1)), .ref l2, .long 0]))], [])) (tw_B D (va_A [(mm, .inr (10, [.int 0, .int 9, .int 0, .int 99, .ref c2, .ref ps2, .ref pr, .int 0, .int 0, .int ((-1)), .ref l2, .long 0])), (l2, .inr (3, [.int 0, .ref em, .int 0]))] sz)) (va_A [(mm, .inr (10, [.int 0, .int 9, .int 0, .int 99, .ref c2, .ref ps2, .ref pr, .int 0, .int 0, .int ((-1)), .ref l2, .long 0])), (l2, .inr (3, [.int 0, .ref em, .int 0]))] sz)) 0 0 (va_A [(mm, .inr (10, [.int 0, .int 9, .int 0, .int 99, .ref c2, .ref ps2, .ref pr, .int 0, .int 0, .int ((-1)), .ref l2, .long 0])), (l2, .inr (3, [.int 0, .ref em, .int 0]))] sz) := by
  refine Met.ofW (cc := cX6_entryOf) (maxL := 3) (ret := (some .int)) (by decide) rfl ?_
  intro p e s m args below meth c s₁ B hml hv
  obtain ⟨rfl, hsz, hP, hK, hD0, hF⟩ := hv
  have hx := B.exec
  have hb := B.bytes
  have hr := B.returns
  have hts := atoms_spec (ws := wsX6_entryOf) B.pre
  have hown : s.vm.findClass RX6 = some m.cls := findClass_of_methodNamed B.named
  have hlocks := B.notSynchronized
  subst hsz
  have hD := hD0.self (sz := s.heap.size)
  generalize hAe : va_A [(mm, .inr (10, [.int 0, .int 9, .int 0, .int 99, .ref c2, .ref ps2, .ref pr, .int 0, .int 0, .int ((-1)), .ref l2, .long 0])), (l2, .inr (3, [.int 0, .ref em, .int 0]))] s.heap.size = A at hD hF ⊢
  have hA : ∀ q : Nat, s.heap.size ≤ q → A q := fun q h => by rw [← hAe]; exact Or.inr h
  have hS : va_S A s.heap s.heap [] := va_S.rf
  have hP : va_P D vwCl [(mm, .inr (10, [.int 0, .int 9, .int 0, .int 99, .ref c2, .ref ps2, .ref pr, .int 0, .int 0, .int ((-1)), .ref l2, .long 0])), (l2, .inr (3, [.int 0, .ref em, .int 0]))] s.heap := hP
  have hl := lv_entry ([.ref mm, .int p0, .int p1]) (n := 3) (Nat.le_of_ble_eq_true rfl)
  rw [lg_entry_eq]
  generalize (lg_sl ([.ref mm, .int p0, .int p1]) ++ List.replicate (3 - (lg_sl ([.ref mm, .int p0, .int p1])).length) Slot.unset).toArray = ls at hl ⊢
  have hl : lv_has ls 3 [(0, .ref mm), (1, .int p0), (2, .int p1)] := hl
  refine lv_aload_n hx hb dX6_entryOf_0 rfl (lv_at hl 0 rfl) ?_
  refine lv_iload_n hx hb dX6_entryOf_1 rfl (lv_at hl 1 rfl) ?_
  have hPc := hP.sub (ws' := [(mm, .inr (10, [.int 0, .int 9, .int 0, .int 99, .ref c2, .ref ps2, .ref pr, .int 0, .int 0, .int ((-1)), .ref l2, .long 0])), (l2, .inr (3, [.int 0, .ref em, .int 0]))]) [0, 1] rfl
  have hDc := hD.sub (ws' := [(mm, .inr (10, [.int 0, .int 9, .int 0, .int 99, .ref c2, .ref ps2, .ref pr, .int 0, .int 0, .int ((-1)), .ref l2, .long 0])), (l2, .inr (3, [.int 0, .ref em, .int 0]))]) [0, 1] (by decide) rfl
  have hKc := hK.sub (tys' := []) [] rfl
  have hFc := va_free (wc := [(mm, .inr (10, [.int 0, .int 9, .int 0, .int 99, .ref c2, .ref ps2, .ref pr, .int 0, .int 0, .int ((-1)), .ref l2, .long 0])), (l2, .inr (3, [.int 0, .ref em, .int 0]))]) hD hS hA [0, 1] rfl
  refine va_calli (va_runV (As := [.int p0]) (rest := []) ⟨hx, hb, hml, hown, hts⟩ (c_X6_isEntry l hst em kw kb D mm p0 c2 ps2 pr l2 _) (cwV 1 hts gX6_entryOf_X6_isEntry rfl rfl rfl (by decide +kernel) ⟨(Nat.le_of_ble_eq_true rfl), (Nat.le_of_ble_eq_true rfl)⟩) (tw_preV hF hS hFc hPc hKc hDc (va_recv hKc hPc (ci := 10) (q0 := 0) rfl rfl)) rfl rfl hl.1 rfl (lv_room (Nat.le_of_ble_eq_true rfl)) dX6_entryOf_2 ⟨(Nat.le_of_ble_eq_true rfl), (Nat.le_of_ble_eq_true rfl)⟩) hS (fun q _ h => hFc q h) hFc (fun r u t H locs ht hvm hw hB hz1 hk1 hS => ?_)
  obtain ⟨rfl, rfl⟩ := hw
  obtain ⟨hP, hD, hK⟩ := tw_join (wr := []) hP hD hK [0, 1] [] rfl rfl (by decide) (by decide) hk1 hFc ht hvm hB
  have hP : va_P D vwCl [(mm, .inr (10, [.int 0, .int 9, .int 0, .int 99, .ref c2, .ref ps2, .ref pr, .int 0, .int 0, .int ((-1)), .ref l2, .long 0])), (l2, .inr (3, [.int 0, .ref em, .int 0]))] _ := hP
  have hD : va_D A [(mm, .inr (10, [.int 0, .int 9, .int 0, .int 99, .ref c2, .ref ps2, .ref pr, .int 0, .int 0, .int ((-1)), .ref l2, .long 0])), (l2, .inr (3, [.int 0, .ref em, .int 0]))] := hD
  have hK : va_K D vwCl [] s := hK
  refine W.widen (k := 0) (n := 0) (Nat.le_refl _) (Nat.le_refl _) ?_
  refine W.eq (g2 := F0 m 5 ls [.int 0]) rfl ?_
  refine lv_if_ne (tgt := 14) hx hb dX6_entryOf_5 (by decide) (fun c9 => absurd c9 (by decide)) (fun c9 => ?_)
  refine lv_aload_n hx hb dX6_entryOf_8 rfl (lv_at hl 0 rfl) ?_
  refine lv_iconst (v := 1) hx hb dX6_entryOf_9 (by decide) ?_
  have hPc := hP.sub (ws' := [(mm, .inr (10, [.int 0, .int 9, .int 0, .int 99, .ref c2, .ref ps2, .ref pr, .int 0, .int 0, .int ((-1)), .ref l2, .long 0]))]) [0] rfl
  have hDc := hD.sub (ws' := [(mm, .inr (10, [.int 0, .int 9, .int 0, .int 99, .ref c2, .ref ps2, .ref pr, .int 0, .int 0, .int ((-1)), .ref l2, .long 0]))]) [0] (by decide) rfl
  have hKc := hK.sub (tys' := []) [] rfl
  have hFc := va_free (wc := [(mm, .inr (10, [.int 0, .int 9, .int 0, .int 99, .ref c2, .ref ps2, .ref pr, .int 0, .int 0, .int ((-1)), .ref l2, .long 0]))]) hD hS hA [0] rfl
  refine va_calli (va_runV (As := [.int 1]) (rest := []) ⟨hx, hb, hml, hown, hts⟩ (c_X6_fails l hst em kw kb D mm 1 0 9 0 99 c2 ps2 pr 0 0 ((-1)) l2 0 _) (cwV 1 hts gX6_entryOf_X6_fails rfl rfl rfl (by decide +kernel) ⟨(Nat.le_of_ble_eq_true rfl), (Nat.le_of_ble_eq_true rfl)⟩) (tw_preV hF hS hFc hPc hKc hDc (va_recv hKc hPc (ci := 10) (q0 := 0) rfl rfl)) rfl rfl hl.1 rfl (lv_room (Nat.le_of_ble_eq_true rfl)) dX6_entryOf_10 ⟨(Nat.le_of_ble_eq_true rfl), (Nat.le_of_ble_eq_true rfl)⟩) hS (fun q _ h => hFc q h) hFc (fun r u t H locs ht hvm hw hB hz1 hk1 hS => ?_)
  obtain ⟨rfl, rfl⟩ := hw
  obtain ⟨hP, hD, hK⟩ := tw_join (wr := [(l2, .inr (3, [.int 0, .ref em, .int 0]))]) hP hD hK [0] [1] rfl rfl (by decide) (by decide) hk1 hFc ht hvm hB
  have hP : va_P D vwCl [(l2, .inr (3, [.int 0, .ref em, .int 0])), (mm, .inr (10, [.int 1, .int 9, .int 0, .int 99, .ref c2, .ref ps2, .ref pr, .int 0, .int 0, .int ((-1)), .ref l2, .long 0]))] _ := hP
  have hD : va_D A [(l2, .inr (3, [.int 0, .ref em, .int 0])), (mm, .inr (10, [.int 1, .int 9, .int 0, .int 99, .ref c2, .ref ps2, .ref pr, .int 0, .int 0, .int ((-1)), .ref l2, .long 0]))] := hD
  have hK : va_K D vwCl [] s := hK
  refine W.widen (k := 0) (n := 0) (Nat.le_refl _) (Nat.le_refl _) ?_
  refine W.eq (g2 := F0 m 13 ls [.int 0]) rfl ?_
  refine W.widen (k := 0) (n := 0) (Nat.le_of_ble_eq_true rfl) (Nat.le_of_ble_eq_true rfl) ?_
  have hP9 := hP.sub (ws' := [(mm, .inr (10, [.int 1, .int 9, .int 0, .int 99, .ref c2, .ref ps2, .ref pr, .int 0, .int 0, .int ((-1)), .ref l2, .long 0]))]) [1] rfl
  have hD9 := hD.sub (ws' := [(mm, .inr (10, [.int 1, .int 9, .int 0, .int 99, .ref c2, .ref ps2, .ref pr, .int 0, .int 0, .int ((-1)), .ref l2, .long 0]))]) [1] (by decide) rfl
  have hK9 := hK.sub (tys' := []) [] rfl
  exact W.iret (v := 0) hx hb hr (fun t ht hW => ⟨⟨0, ([(mm, .inr (10, [.int 1, .int 9, .int 0, .int 99, .ref c2, .ref ps2, .ref pr, .int 0, .int 0, .int ((-1)), .ref l2, .long 0]))], []), rfl, ⟨rfl, rfl⟩, by rw [ht]; exact hP9, va_K.moved hW.alike hK9, hD9⟩, hS.F ht⟩) hS.2.2 dX6_entryOf_13
set_option maxHeartbeats 4000000 in
set_option maxRecDepth 100000 in
theorem c_X6_longest (l : Launch) (hst : l.stackTraces = false) (em kw kb : Nat) (D : va_G) (mm : Nat) (c2 : Nat) (ps2 : Nat) (pr : Nat) (l2 : Nat) (sz : Nat) : Met l yX6_longest wsX6_longest ({ frames := 3, cells := 1, slots := 4, locals := 53 }) (va_Pc [.ref mm] (tw_Pre em kw kb D sz [(mm, .inr (10, [.int 0, .int 9, .int 0, .int 99, .ref c2, .ref ps2, .ref pr, .int 0, .int 0, .int ((-1)), .ref l2, .long 0])), (ps2, .inr (3, [.int 0, .ref em, .int 0]))] [])) (va_Qi (fun (r : Int32) (u : tw_U) => r = 0 ∧ u = ([(mm, .inr (10, [.int 0, .int 9, .int 0, .int 99, .ref c2, .ref ps2, .ref pr, .int 0, .int 0, .int ((-1)), .ref l2, .long 0]))], [])) (tw_B D (va_A [(mm, .inr (10, [.int 0, .int 9, .int 0, .int 99, .ref c2, .ref ps2, .ref pr, .int 0, .int 0, .int ((-1)), .ref l2, .long 0])), (ps2, .inr (3, [.int 0, .ref em, .int 0]))] sz)) (va_A [(mm, .inr (10, [.int 0, .int 9, .int 0, .int 99, .ref c2, .ref ps2, .ref pr, .int 0, .int 0, .int ((-1)), .ref l2, .long 0])), (ps2, .inr (3, [.int 0, .ref em, .int 0]))] sz)) 1 4 (va_A [(mm, .inr (10, [.int 0, .int 9, .int 0, .int 99, .ref c2, .ref ps2, .ref pr, .int 0, .int 0, .int ((-1)), .ref l2, .long 0])), (ps2, .inr (3, [.int 0, .ref em, .int 0]))] sz) := by
  refine Met.ofW (cc := cX6_longest) (maxL := 4) (ret := (some .int)) (by decide) rfl ?_
  intro p e s m args below meth c s₁ B hml hv
  obtain ⟨rfl, hsz, hP, hK, hD0, hF⟩ := hv
  have hx := B.exec
  have hb := B.bytes
  have hr := B.returns
  have hts := atoms_spec (ws := wsX6_longest) B.pre
  have hown : s.vm.findClass RX6 = some m.cls := findClass_of_methodNamed B.named
  have hlocks := B.notSynchronized
  have hiRX6 : ∀ w ∈ u_ws RX6 TX6 12, w ∈ wsX6_longest := by decide +kernel
  subst hsz
  have hD := hD0.self (sz := s.heap.size)
  generalize hAe : va_A [(mm, .inr (10, [.int 0, .int 9, .int 0, .int 99, .ref c2, .ref ps2, .ref pr, .int 0, .int 0, .int ((-1)), .ref l2, .long 0])), (ps2, .inr (3, [.int 0, .ref em, .int 0]))] s.heap.size = A at hD hF ⊢
  have hA : ∀ q : Nat, s.heap.size ≤ q → A q := fun q h => by rw [← hAe]; exact Or.inr h
  have hS : va_S A s.heap s.heap [] := va_S.rf
  have hP : va_P D vwCl [(mm, .inr (10, [.int 0, .int 9, .int 0, .int 99, .ref c2, .ref ps2, .ref pr, .int 0, .int 0, .int ((-1)), .ref l2, .long 0])), (ps2, .inr (3, [.int 0, .ref em, .int 0]))] s.heap := hP
  have hl := lv_entry ([.ref mm]) (n := 4) (Nat.le_of_ble_eq_true rfl)
  rw [lg_entry_eq]
  generalize (lg_sl ([.ref mm]) ++ List.replicate (4 - (lg_sl ([.ref mm])).length) Slot.unset).toArray = ls at hl ⊢
  have hl : lv_has ls 4 [(0, .ref mm)] := hl
  refine lv_iconst (v := 0) hx hb dX6_longest_0 (by decide) ?_
  refine lv_istore_n (lv' := [(1, .int 0), (0, .ref mm)]) hx hb dX6_longest_1 rfl hl (by decide) rfl (fun ls hl => ?_)
  refine lv_aload_n hx hb dX6_longest_2 rfl (lv_at hl 1 rfl) ?_
  refine va_get (D := D) (ci := 10) (v := .ref ps2) (C := RX6) (T := TX6) (N := 12) hx hb hts hiRX6 hown hK hP 0 rfl rfl 5 (by decide) (hts (.fieldLink RX6 24 "TowerliftryModel" "persons" "Ljava/util/ArrayList;") (by decide +kernel)) (fun _ h9 => h9) rfl dX6_longest_3 ?_
  have hPc := hP.sub (ws' := [(ps2, .inr (3, [.int 0, .ref em, .int 0]))]) [1] rfl
  have hDc := hD.sub (ws' := [(ps2, .inr (3, [.int 0, .ref em, .int 0]))]) [1] (by decide) rfl
  have hKc := hK.sub (tys' := []) [] rfl
  have hFc := va_free (wc := [(ps2, .inr (3, [.int 0, .ref em, .int 0]))]) hD hS hA [1] rfl
  refine va_callq (va_runV (As := []) (rest := []) ⟨hx, hb, hml, hown, hts⟩ (c_Jx4a65c_iterator_32c93 l hst em kw kb D ps2 em _) (cwV 0 hts gX6_longest_Jx4a65c_iterator_32c93 rfl rfl rfl (by decide +kernel) ⟨(Nat.le_of_ble_eq_true rfl), (Nat.le_of_ble_eq_true rfl)⟩) (tw_preV hF hS hFc hPc hKc hDc (va_recv hKc hPc (ci := 3) (q0 := 0) rfl rfl)) rfl rfl hl.1 rfl (lv_room (Nat.le_of_ble_eq_true rfl)) dX6_longest_6 ⟨(Nat.le_of_ble_eq_true rfl), (Nat.le_of_ble_eq_true rfl)⟩) hS (fun q _ h => hFc q h) hFc (fun r u t H locs ht hvm hw hB hz1 hk1 hS => ?_)
  obtain ⟨q_1, rfl, rfl⟩ := hw
  obtain ⟨hP, hD, hK⟩ := tw_join (wr := [(mm, .inr (10, [.int 0, .int 9, .int 0, .int 99, .ref c2, .ref ps2, .ref pr, .int 0, .int 0, .int ((-1)), .ref l2, .long 0]))]) hP hD hK [1] [0] rfl rfl (by decide) (by decide) hk1 hFc ht hvm hB
  have hP : va_P D vwCl [(mm, .inr (10, [.int 0, .int 9, .int 0, .int 99, .ref c2, .ref ps2, .ref pr, .int 0, .int 0, .int ((-1)), .ref l2, .long 0])), (q_1, .inr (2, [.int 0, .int ((-1)), .int 0, .ref ps2])), (ps2, .inr (3, [.int 0, .ref em, .int 0]))] _ := hP
  have hD : va_D A [(mm, .inr (10, [.int 0, .int 9, .int 0, .int 99, .ref c2, .ref ps2, .ref pr, .int 0, .int 0, .int ((-1)), .ref l2, .long 0])), (q_1, .inr (2, [.int 0, .int ((-1)), .int 0, .ref ps2])), (ps2, .inr (3, [.int 0, .ref em, .int 0]))] := hD
  have hK : va_K D vwCl [] s := hK
  refine W.widen (k := 1) (n := 4) (Nat.le_refl _) (Nat.le_refl _) ?_
  refine W.eq (g2 := F0 m 9 ls [.ref q_1]) rfl ?_
  refine lv_astore_n (lv' := [(2, .ref q_1), (1, .int 0), (0, .ref mm)]) hx hb dX6_longest_9 rfl hl (by decide) rfl (fun ls hl => ?_)
  refine lv_aload_n hx hb dX6_longest_10 rfl (lv_at hl 0 rfl) ?_
  have hPc := hP.sub (ws' := [(q_1, .inr (2, [.int 0, .int ((-1)), .int 0, .ref ps2])), (ps2, .inr (3, [.int 0, .ref em, .int 0]))]) [1, 2] rfl
  have hDc := hD.sub (ws' := [(q_1, .inr (2, [.int 0, .int ((-1)), .int 0, .ref ps2])), (ps2, .inr (3, [.int 0, .ref em, .int 0]))]) [1, 2] (by decide) rfl
  have hKc := hK.sub (tys' := []) [] rfl
  have hFc := va_free (wc := [(q_1, .inr (2, [.int 0, .int ((-1)), .int 0, .ref ps2])), (ps2, .inr (3, [.int 0, .ref em, .int 0]))]) hD hS hA [1, 2] rfl
  refine va_callFi (va_runF (hKc.1 2 _ rfl).2 (As := []) (rest := []) ⟨hx, hb, hml, hown, hts⟩ (c_Jx35411_hasNext_aae02 l hst em kw kb D q_1 ps2 em _) (va_cwF 0 hts gX6_longest_Jx35411_hasNext_aae02_f64Jx35411 rfl rfl rfl (tw_fw hF) (by decide +kernel) ⟨(Nat.le_of_ble_eq_true rfl), (Nat.le_of_ble_eq_true rfl)⟩) (tw_preV hF hS hFc hPc hKc hDc (va_recv hKc hPc (ci := 2) (q0 := 0) rfl rfl)) rfl rfl hl.1 rfl (lv_room (Nat.le_of_ble_eq_true rfl)) dX6_longest_11 ⟨(Nat.le_of_ble_eq_true rfl), (Nat.le_of_ble_eq_true rfl)⟩) hS (fun q _ h => hFc q h) hFc (fun r u t H locs ht hvm hw hB hz1 hk1 hS => ?_)
  obtain ⟨rfl, rfl⟩ := hw
  obtain ⟨hP, hD, hK⟩ := tw_join (wr := [(mm, .inr (10, [.int 0, .int 9, .int 0, .int 99, .ref c2, .ref ps2, .ref pr, .int 0, .int 0, .int ((-1)), .ref l2, .long 0]))]) hP hD hK [1, 2] [0] rfl rfl (by decide) (by decide) hk1 hFc ht hvm hB
  have hP : va_P D vwCl [(mm, .inr (10, [.int 0, .int 9, .int 0, .int 99, .ref c2, .ref ps2, .ref pr, .int 0, .int 0, .int ((-1)), .ref l2, .long 0])), (q_1, .inr (2, [.int 0, .int ((-1)), .int 0, .ref ps2])), (ps2, .inr (3, [.int 0, .ref em, .int 0]))] _ := hP
  have hD : va_D A [(mm, .inr (10, [.int 0, .int 9, .int 0, .int 99, .ref c2, .ref ps2, .ref pr, .int 0, .int 0, .int ((-1)), .ref l2, .long 0])), (q_1, .inr (2, [.int 0, .int ((-1)), .int 0, .ref ps2])), (ps2, .inr (3, [.int 0, .ref em, .int 0]))] := hD
  have hK : va_K D vwCl [] s := hK
  refine W.widen (k := 1) (n := 4) (Nat.le_refl _) (Nat.le_refl _) ?_
  refine W.eq (g2 := F0 m 16 ls [.int 0]) rfl ?_
  refine lv_if_eq (tgt := 41) hx hb dX6_longest_16 (by decide) (fun c9 => ?_) (fun c9 => absurd c9 (by decide))
  refine lv_aload_n hx hb dX6_longest_41 rfl (lv_at hl 2 rfl) ?_
  refine lv_iload_n hx hb dX6_longest_42 rfl (lv_at hl 1 rfl) ?_
  have hPc := hP.sub (ws' := [(mm, .inr (10, [.int 0, .int 9, .int 0, .int 99, .ref c2, .ref ps2, .ref pr, .int 0, .int 0, .int ((-1)), .ref l2, .long 0]))]) [0] rfl
  have hDc := hD.sub (ws' := [(mm, .inr (10, [.int 0, .int 9, .int 0, .int 99, .ref c2, .ref ps2, .ref pr, .int 0, .int 0, .int ((-1)), .ref l2, .long 0]))]) [0] (by decide) rfl
  have hKc := hK.sub (tys' := []) [] rfl
  have hFc := va_free (wc := [(mm, .inr (10, [.int 0, .int 9, .int 0, .int 99, .ref c2, .ref ps2, .ref pr, .int 0, .int 0, .int ((-1)), .ref l2, .long 0]))]) hD hS hA [0] rfl
  refine va_calli (va_runV (As := [.int 0]) (rest := []) ⟨hx, hb, hml, hown, hts⟩ (c_X6_tells l hst em kw kb D mm 0 0 9 0 99 c2 ps2 pr 0 0 ((-1)) l2 0 _) (cwV 1 hts gX6_longest_X6_tells rfl rfl rfl (by decide +kernel) ⟨(Nat.le_of_ble_eq_true rfl), (Nat.le_of_ble_eq_true rfl)⟩) (tw_preV hF hS hFc hPc hKc hDc (va_recv hKc hPc (ci := 10) (q0 := 0) rfl rfl)) rfl rfl hl.1 rfl (lv_room (Nat.le_of_ble_eq_true rfl)) dX6_longest_43 ⟨(Nat.le_of_ble_eq_true rfl), (Nat.le_of_ble_eq_true rfl)⟩) hS (fun q _ h => hFc q h) hFc (fun r u t H locs ht hvm hw hB hz1 hk1 hS => ?_)
  obtain ⟨rfl, rfl⟩ := hw
  obtain ⟨hP, hD, hK⟩ := tw_join (wr := [(q_1, .inr (2, [.int 0, .int ((-1)), .int 0, .ref ps2])), (ps2, .inr (3, [.int 0, .ref em, .int 0]))]) hP hD hK [0] [1, 2] rfl rfl (by decide) (by decide) hk1 hFc ht hvm hB
  have hP : va_P D vwCl [(q_1, .inr (2, [.int 0, .int ((-1)), .int 0, .ref ps2])), (ps2, .inr (3, [.int 0, .ref em, .int 0])), (mm, .inr (10, [.int 0, .int 9, .int 0, .int 99, .ref c2, .ref ps2, .ref pr, .int 0, .int 0, .int ((-1)), .ref l2, .long 0]))] _ := hP
  have hD : va_D A [(q_1, .inr (2, [.int 0, .int ((-1)), .int 0, .ref ps2])), (ps2, .inr (3, [.int 0, .ref em, .int 0])), (mm, .inr (10, [.int 0, .int 9, .int 0, .int 99, .ref c2, .ref ps2, .ref pr, .int 0, .int 0, .int ((-1)), .ref l2, .long 0]))] := hD
  have hK : va_K D vwCl [] s := hK
  refine W.widen (k := 1) (n := 4) (Nat.le_refl _) (Nat.le_refl _) ?_
  refine W.eq (g2 := F0 m 46 ls [.int 0]) rfl ?_
  refine W.widen (k := 1) (n := 4) (Nat.le_of_ble_eq_true rfl) (Nat.le_of_ble_eq_true rfl) ?_
  have hP9 := hP.sub (ws' := [(mm, .inr (10, [.int 0, .int 9, .int 0, .int 99, .ref c2, .ref ps2, .ref pr, .int 0, .int 0, .int ((-1)), .ref l2, .long 0]))]) [2] rfl
  have hD9 := hD.sub (ws' := [(mm, .inr (10, [.int 0, .int 9, .int 0, .int 99, .ref c2, .ref ps2, .ref pr, .int 0, .int 0, .int ((-1)), .ref l2, .long 0]))]) [2] (by decide) rfl
  have hK9 := hK.sub (tys' := []) [] rfl
  exact W.iret (v := 0) hx hb hr (fun t ht hW => ⟨⟨0, ([(mm, .inr (10, [.int 0, .int 9, .int 0, .int 99, .ref c2, .ref ps2, .ref pr, .int 0, .int 0, .int ((-1)), .ref l2, .long 0]))], []), rfl, ⟨rfl, rfl⟩, by rw [ht]; exact hP9, va_K.moved hW.alike hK9, hD9⟩, hS.F ht⟩) hS.2.2 dX6_longest_46
set_option maxHeartbeats 4000000 in
set_option maxRecDepth 100000 in
theorem c_X6_comeShare (l : Launch) (hst : l.stackTraces = false) (em kw kb : Nat) (D : va_G) (mm : Nat) (c2 : Nat) (ps2 : Nat) (pr : Nat) (l2 : Nat) (sz : Nat) : Met l yX6_comeShare wsX6_comeShare ({ frames := 1, cells := 0, slots := 0, locals := 20 }) (va_Pc [.ref mm] (tw_Pre em kw kb D sz [(mm, .inr (10, [.int 0, .int 9, .int 0, .int 99, .ref c2, .ref ps2, .ref pr, .int 0, .int 0, .int ((-1)), .ref l2, .long 0])), (ps2, .inr (3, [.int 0, .ref em, .int 0]))] [])) (va_Qf (fun (r : UInt32) (u : tw_U) => r = FP.fconst0 ∧ u = ([(mm, .inr (10, [.int 1, .int 9, .int 0, .int 99, .ref c2, .ref ps2, .ref pr, .int 0, .int 0, .int ((-1)), .ref l2, .long 0]))], [])) (tw_B D (va_A [(mm, .inr (10, [.int 0, .int 9, .int 0, .int 99, .ref c2, .ref ps2, .ref pr, .int 0, .int 0, .int ((-1)), .ref l2, .long 0])), (ps2, .inr (3, [.int 0, .ref em, .int 0]))] sz)) (va_A [(mm, .inr (10, [.int 0, .int 9, .int 0, .int 99, .ref c2, .ref ps2, .ref pr, .int 0, .int 0, .int ((-1)), .ref l2, .long 0])), (ps2, .inr (3, [.int 0, .ref em, .int 0]))] sz)) 0 0 (va_A [(mm, .inr (10, [.int 0, .int 9, .int 0, .int 99, .ref c2, .ref ps2, .ref pr, .int 0, .int 0, .int ((-1)), .ref l2, .long 0])), (ps2, .inr (3, [.int 0, .ref em, .int 0]))] sz) := by
  refine Met.ofW (cc := cX6_comeShare) (maxL := 1) (ret := (some .float)) (by decide) rfl ?_
  intro p e s m args below meth c s₁ B hml hv
  obtain ⟨rfl, hsz, hP, hK, hD0, hF⟩ := hv
  have hx := B.exec
  have hb := B.bytes
  have hr := B.returns
  have hts := atoms_spec (ws := wsX6_comeShare) B.pre
  have hown : s.vm.findClass RX6 = some m.cls := findClass_of_methodNamed B.named
  have hlocks := B.notSynchronized
  have hiRX6 : ∀ w ∈ u_ws RX6 TX6 12, w ∈ wsX6_comeShare := by decide +kernel
  subst hsz
  have hD := hD0.self (sz := s.heap.size)
  generalize hAe : va_A [(mm, .inr (10, [.int 0, .int 9, .int 0, .int 99, .ref c2, .ref ps2, .ref pr, .int 0, .int 0, .int ((-1)), .ref l2, .long 0])), (ps2, .inr (3, [.int 0, .ref em, .int 0]))] s.heap.size = A at hD hF ⊢
  have hA : ∀ q : Nat, s.heap.size ≤ q → A q := fun q h => by rw [← hAe]; exact Or.inr h
  have hS : va_S A s.heap s.heap [] := va_S.rf
  have hP : va_P D vwCl [(mm, .inr (10, [.int 0, .int 9, .int 0, .int 99, .ref c2, .ref ps2, .ref pr, .int 0, .int 0, .int ((-1)), .ref l2, .long 0])), (ps2, .inr (3, [.int 0, .ref em, .int 0]))] s.heap := hP
  have hl := lv_entry ([.ref mm]) (n := 1) (Nat.le_of_ble_eq_true rfl)
  rw [lg_entry_eq]
  generalize (lg_sl ([.ref mm]) ++ List.replicate (1 - (lg_sl ([.ref mm])).length) Slot.unset).toArray = ls at hl ⊢
  have hl : lv_has ls 1 [(0, .ref mm)] := hl
  refine lv_aload_n hx hb dX6_comeShare_0 rfl (lv_at hl 0 rfl) ?_
  refine lv_aload_n hx hb dX6_comeShare_1 rfl (lv_at hl 0 rfl) ?_
  refine va_get (D := D) (ci := 10) (v := .ref ps2) (C := RX6) (T := TX6) (N := 12) hx hb hts hiRX6 hown hK hP 0 rfl rfl 5 (by decide) (hts (.fieldLink RX6 24 "TowerliftryModel" "persons" "Ljava/util/ArrayList;") (by decide +kernel)) (fun _ h9 => h9) rfl dX6_comeShare_2 ?_
  have hPc := hP.sub (ws' := [(ps2, .inr (3, [.int 0, .ref em, .int 0]))]) [1] rfl
  have hDc := hD.sub (ws' := [(ps2, .inr (3, [.int 0, .ref em, .int 0]))]) [1] (by decide) rfl
  have hKc := hK.sub (tys' := []) [] rfl
  have hFc := va_free (wc := [(ps2, .inr (3, [.int 0, .ref em, .int 0]))]) hD hS hA [1] rfl
  refine va_calli (va_runV (As := []) (rest := [.ref mm]) ⟨hx, hb, hml, hown, hts⟩ (c_Jx4a65c_isEmpty_aae02 l hst em kw kb D ps2 em _) (cwV 0 hts gX6_comeShare_Jx4a65c_isEmpty_aae02 rfl rfl rfl (by decide +kernel) ⟨(Nat.le_of_ble_eq_true rfl), (Nat.le_of_ble_eq_true rfl)⟩) (tw_preV hF hS hFc hPc hKc hDc (va_recv hKc hPc (ci := 3) (q0 := 0) rfl rfl)) rfl rfl hl.1 rfl (lv_room (Nat.le_of_ble_eq_true rfl)) dX6_comeShare_5 ⟨(Nat.le_of_ble_eq_true rfl), (Nat.le_of_ble_eq_true rfl)⟩) hS (fun q _ h => hFc q h) hFc (fun r u t H locs ht hvm hw hB hz1 hk1 hS => ?_)
  obtain ⟨rfl, rfl⟩ := hw
  obtain ⟨hP, hD, hK⟩ := tw_join (wr := [(mm, .inr (10, [.int 0, .int 9, .int 0, .int 99, .ref c2, .ref ps2, .ref pr, .int 0, .int 0, .int ((-1)), .ref l2, .long 0]))]) hP hD hK [1] [0] rfl rfl (by decide) (by decide) hk1 hFc ht hvm hB
  have hP : va_P D vwCl [(mm, .inr (10, [.int 0, .int 9, .int 0, .int 99, .ref c2, .ref ps2, .ref pr, .int 0, .int 0, .int ((-1)), .ref l2, .long 0])), (ps2, .inr (3, [.int 0, .ref em, .int 0]))] _ := hP
  have hD : va_D A [(mm, .inr (10, [.int 0, .int 9, .int 0, .int 99, .ref c2, .ref ps2, .ref pr, .int 0, .int 0, .int ((-1)), .ref l2, .long 0])), (ps2, .inr (3, [.int 0, .ref em, .int 0]))] := hD
  have hK : va_K D vwCl [] s := hK
  refine W.widen (k := 0) (n := 0) (Nat.le_refl _) (Nat.le_refl _) ?_
  refine W.eq (g2 := F0 m 8 ls [.int 1, .ref mm]) rfl ?_
  refine lv_if_eq (tgt := 15) hx hb dX6_comeShare_8 (by decide) (fun c9 => absurd c9 (by decide)) (fun c9 => ?_)
  refine lv_iconst (v := 1) hx hb dX6_comeShare_11 (by decide) ?_
  refine lv_goto (tgt := 16) hx hb dX6_comeShare_12 (by decide) ?_
  refine va_put (D := D) (ci := 10) (v := .int 1) (ty := .int) (C := RX6) (T := TX6) (N := 12) hx hb hts hiRX6 tyX6 tyX6_ok nmX6 hown hK hP hD hS 0 rfl rfl 0 (by decide) (hts (.fieldLink RX6 38 "TowerliftryModel" "thrown" "I") (by decide +kernel)) (fun _ h9 => h9) rfl (by decide +kernel) rfl rfl (Nat.le_of_ble_eq_true rfl) dX6_comeShare_16 (fun H locs hP hD hS => ?_)
  have hP : va_P D vwCl [(mm, .inr (10, [.int 1, .int 9, .int 0, .int 99, .ref c2, .ref ps2, .ref pr, .int 0, .int 0, .int ((-1)), .ref l2, .long 0])), (ps2, .inr (3, [.int 0, .ref em, .int 0]))] _ := hP
  have hD : va_D A [(mm, .inr (10, [.int 1, .int 9, .int 0, .int 99, .ref c2, .ref ps2, .ref pr, .int 0, .int 0, .int ((-1)), .ref l2, .long 0])), (ps2, .inr (3, [.int 0, .ref em, .int 0]))] := hD
  refine lv_aload_n hx hb dX6_comeShare_19 rfl (lv_at hl 0 rfl) ?_
  refine va_get (D := D) (ci := 10) (v := .int 1) (C := RX6) (T := TX6) (N := 12) hx hb hts hiRX6 hown hK hP 0 rfl rfl 0 (by decide) (hts (.fieldLink RX6 38 "TowerliftryModel" "thrown" "I") (by decide +kernel)) (fun _ h9 => h9) rfl dX6_comeShare_20 ?_
  refine lv_if_le (tgt := 30) hx hb dX6_comeShare_23 (by decide) (fun c9 => absurd c9 (by decide)) (fun c9 => ?_)
  refine lv_fconst0 hx hb dX6_comeShare_26 ?_
  refine lv_goto (tgt := 46) hx hb dX6_comeShare_27 (by decide) ?_
  refine W.widen (k := 0) (n := 0) (Nat.le_of_ble_eq_true rfl) (Nat.le_of_ble_eq_true rfl) ?_
  have hP9 := hP.sub (ws' := [(mm, .inr (10, [.int 1, .int 9, .int 0, .int 99, .ref c2, .ref ps2, .ref pr, .int 0, .int 0, .int ((-1)), .ref l2, .long 0]))]) [0] rfl
  have hD9 := hD.sub (ws' := [(mm, .inr (10, [.int 1, .int 9, .int 0, .int 99, .ref c2, .ref ps2, .ref pr, .int 0, .int 0, .int ((-1)), .ref l2, .long 0]))]) [0] (by decide) rfl
  have hK9 := hK.sub (tys' := []) [] rfl
  exact W.fret (v := FP.fconst0) hx hb hr (fun t ht hW => ⟨⟨FP.fconst0, ([(mm, .inr (10, [.int 1, .int 9, .int 0, .int 99, .ref c2, .ref ps2, .ref pr, .int 0, .int 0, .int ((-1)), .ref l2, .long 0]))], []), rfl, ⟨rfl, rfl⟩, by rw [ht]; exact hP9, va_K.moved hW.alike hK9, hD9⟩, hS.F ht⟩) hS.2.2 dX6_comeShare_46
set_option maxHeartbeats 4000000 in
set_option maxRecDepth 100000 in
theorem c_X6_meanWait (l : Launch) (hst : l.stackTraces = false) (em kw kb : Nat) (D : va_G) (mm : Nat) (c2 : Nat) (ps2 : Nat) (pr : Nat) (l2 : Nat) (sz : Nat) : Met l yX6_meanWait wsX6_meanWait ({ frames := 3, cells := 1, slots := 4, locals := 53 }) (va_Pc [.ref mm] (tw_Pre em kw kb D sz [(mm, .inr (10, [.int 0, .int 9, .int 0, .int 99, .ref c2, .ref ps2, .ref pr, .int 0, .int 0, .int ((-1)), .ref l2, .long 0])), (ps2, .inr (3, [.int 0, .ref em, .int 0]))] [])) (va_Qd (fun (r : UInt64) (u : tw_U) => r = FP.dconst0 ∧ u = ([(mm, .inr (10, [.int 1, .int 9, .int 0, .int 99, .ref c2, .ref ps2, .ref pr, .int 0, .int 0, .int ((-1)), .ref l2, .long 0]))], [])) (tw_B D (va_A [(mm, .inr (10, [.int 0, .int 9, .int 0, .int 99, .ref c2, .ref ps2, .ref pr, .int 0, .int 0, .int ((-1)), .ref l2, .long 0])), (ps2, .inr (3, [.int 0, .ref em, .int 0]))] sz)) (va_A [(mm, .inr (10, [.int 0, .int 9, .int 0, .int 99, .ref c2, .ref ps2, .ref pr, .int 0, .int 0, .int ((-1)), .ref l2, .long 0])), (ps2, .inr (3, [.int 0, .ref em, .int 0]))] sz)) 1 4 (va_A [(mm, .inr (10, [.int 0, .int 9, .int 0, .int 99, .ref c2, .ref ps2, .ref pr, .int 0, .int 0, .int ((-1)), .ref l2, .long 0])), (ps2, .inr (3, [.int 0, .ref em, .int 0]))] sz) := by
  refine Met.ofW (cc := cX6_meanWait) (maxL := 4) (ret := (some .double)) (by decide) rfl ?_
  intro p e s m args below meth c s₁ B hml hv
  obtain ⟨rfl, hsz, hP, hK, hD0, hF⟩ := hv
  have hx := B.exec
  have hb := B.bytes
  have hr := B.returns
  have hts := atoms_spec (ws := wsX6_meanWait) B.pre
  have hown : s.vm.findClass RX6 = some m.cls := findClass_of_methodNamed B.named
  have hlocks := B.notSynchronized
  have hiRX6 : ∀ w ∈ u_ws RX6 TX6 12, w ∈ wsX6_meanWait := by decide +kernel
  subst hsz
  have hD := hD0.self (sz := s.heap.size)
  generalize hAe : va_A [(mm, .inr (10, [.int 0, .int 9, .int 0, .int 99, .ref c2, .ref ps2, .ref pr, .int 0, .int 0, .int ((-1)), .ref l2, .long 0])), (ps2, .inr (3, [.int 0, .ref em, .int 0]))] s.heap.size = A at hD hF ⊢
  have hA : ∀ q : Nat, s.heap.size ≤ q → A q := fun q h => by rw [← hAe]; exact Or.inr h
  have hS : va_S A s.heap s.heap [] := va_S.rf
  have hP : va_P D vwCl [(mm, .inr (10, [.int 0, .int 9, .int 0, .int 99, .ref c2, .ref ps2, .ref pr, .int 0, .int 0, .int ((-1)), .ref l2, .long 0])), (ps2, .inr (3, [.int 0, .ref em, .int 0]))] s.heap := hP
  have hl := lv_entry ([.ref mm]) (n := 4) (Nat.le_of_ble_eq_true rfl)
  rw [lg_entry_eq]
  generalize (lg_sl ([.ref mm]) ++ List.replicate (4 - (lg_sl ([.ref mm])).length) Slot.unset).toArray = ls at hl ⊢
  have hl : lv_has ls 4 [(0, .ref mm)] := hl
  refine lv_aload_n hx hb dX6_meanWait_0 rfl (lv_at hl 0 rfl) ?_
  refine lv_aload_n hx hb dX6_meanWait_1 rfl (lv_at hl 0 rfl) ?_
  refine va_get (D := D) (ci := 10) (v := .ref ps2) (C := RX6) (T := TX6) (N := 12) hx hb hts hiRX6 hown hK hP 0 rfl rfl 5 (by decide) (hts (.fieldLink RX6 24 "TowerliftryModel" "persons" "Ljava/util/ArrayList;") (by decide +kernel)) (fun _ h9 => h9) rfl dX6_meanWait_2 ?_
  have hPc := hP.sub (ws' := [(ps2, .inr (3, [.int 0, .ref em, .int 0]))]) [1] rfl
  have hDc := hD.sub (ws' := [(ps2, .inr (3, [.int 0, .ref em, .int 0]))]) [1] (by decide) rfl
  have hKc := hK.sub (tys' := []) [] rfl
  have hFc := va_free (wc := [(ps2, .inr (3, [.int 0, .ref em, .int 0]))]) hD hS hA [1] rfl
  refine va_calli (va_runV (As := []) (rest := [.ref mm]) ⟨hx, hb, hml, hown, hts⟩ (c_Jx4a65c_isEmpty_aae02 l hst em kw kb D ps2 em _) (cwV 0 hts gX6_meanWait_Jx4a65c_isEmpty_aae02 rfl rfl rfl (by decide +kernel) ⟨(Nat.le_of_ble_eq_true rfl), (Nat.le_of_ble_eq_true rfl)⟩) (tw_preV hF hS hFc hPc hKc hDc (va_recv hKc hPc (ci := 3) (q0 := 0) rfl rfl)) rfl rfl hl.1 rfl (lv_room (Nat.le_of_ble_eq_true rfl)) dX6_meanWait_5 ⟨(Nat.le_of_ble_eq_true rfl), (Nat.le_of_ble_eq_true rfl)⟩) hS (fun q _ h => hFc q h) hFc (fun r u t H locs ht hvm hw hB hz1 hk1 hS => ?_)
  obtain ⟨rfl, rfl⟩ := hw
  obtain ⟨hP, hD, hK⟩ := tw_join (wr := [(mm, .inr (10, [.int 0, .int 9, .int 0, .int 99, .ref c2, .ref ps2, .ref pr, .int 0, .int 0, .int ((-1)), .ref l2, .long 0]))]) hP hD hK [1] [0] rfl rfl (by decide) (by decide) hk1 hFc ht hvm hB
  have hP : va_P D vwCl [(mm, .inr (10, [.int 0, .int 9, .int 0, .int 99, .ref c2, .ref ps2, .ref pr, .int 0, .int 0, .int ((-1)), .ref l2, .long 0])), (ps2, .inr (3, [.int 0, .ref em, .int 0]))] _ := hP
  have hD : va_D A [(mm, .inr (10, [.int 0, .int 9, .int 0, .int 99, .ref c2, .ref ps2, .ref pr, .int 0, .int 0, .int ((-1)), .ref l2, .long 0])), (ps2, .inr (3, [.int 0, .ref em, .int 0]))] := hD
  have hK : va_K D vwCl [] s := hK
  refine W.widen (k := 0) (n := 0) (Nat.le_refl _) (Nat.le_refl _) ?_
  refine W.eq (g2 := F0 m 8 ls [.int 1, .ref mm]) rfl ?_
  refine lv_if_eq (tgt := 15) hx hb dX6_meanWait_8 (by decide) (fun c9 => absurd c9 (by decide)) (fun c9 => ?_)
  refine lv_iconst (v := 1) hx hb dX6_meanWait_11 (by decide) ?_
  refine lv_goto (tgt := 16) hx hb dX6_meanWait_12 (by decide) ?_
  refine va_put (D := D) (ci := 10) (v := .int 1) (ty := .int) (C := RX6) (T := TX6) (N := 12) hx hb hts hiRX6 tyX6 tyX6_ok nmX6 hown hK hP hD hS 0 rfl rfl 0 (by decide) (hts (.fieldLink RX6 38 "TowerliftryModel" "thrown" "I") (by decide +kernel)) (fun _ h9 => h9) rfl (by decide +kernel) rfl rfl (Nat.le_of_ble_eq_true rfl) dX6_meanWait_16 (fun H locs hP hD hS => ?_)
  have hP : va_P D vwCl [(mm, .inr (10, [.int 1, .int 9, .int 0, .int 99, .ref c2, .ref ps2, .ref pr, .int 0, .int 0, .int ((-1)), .ref l2, .long 0])), (ps2, .inr (3, [.int 0, .ref em, .int 0]))] _ := hP
  have hD : va_D A [(mm, .inr (10, [.int 1, .int 9, .int 0, .int 99, .ref c2, .ref ps2, .ref pr, .int 0, .int 0, .int ((-1)), .ref l2, .long 0])), (ps2, .inr (3, [.int 0, .ref em, .int 0]))] := hD
  refine lv_iconst (v := 0) hx hb dX6_meanWait_19 (by decide) ?_
  refine lv_istore_n (lv' := [(1, .int 0), (0, .ref mm)]) hx hb dX6_meanWait_20 rfl hl (by decide) rfl (fun ls hl => ?_)
  refine lv_aload_n hx hb dX6_meanWait_21 rfl (lv_at hl 1 rfl) ?_
  refine va_get (D := D) (ci := 10) (v := .ref ps2) (C := RX6) (T := TX6) (N := 12) hx hb hts hiRX6 hown hK hP 0 rfl rfl 5 (by decide) (hts (.fieldLink RX6 24 "TowerliftryModel" "persons" "Ljava/util/ArrayList;") (by decide +kernel)) (fun _ h9 => h9) rfl dX6_meanWait_22 ?_
  have hPc := hP.sub (ws' := [(ps2, .inr (3, [.int 0, .ref em, .int 0]))]) [1] rfl
  have hDc := hD.sub (ws' := [(ps2, .inr (3, [.int 0, .ref em, .int 0]))]) [1] (by decide) rfl
  have hKc := hK.sub (tys' := []) [] rfl
  have hFc := va_free (wc := [(ps2, .inr (3, [.int 0, .ref em, .int 0]))]) hD hS hA [1] rfl
  refine va_callq (va_runV (As := []) (rest := []) ⟨hx, hb, hml, hown, hts⟩ (c_Jx4a65c_iterator_32c93 l hst em kw kb D ps2 em _) (cwV 0 hts gX6_meanWait_Jx4a65c_iterator_32c93 rfl rfl rfl (by decide +kernel) ⟨(Nat.le_of_ble_eq_true rfl), (Nat.le_of_ble_eq_true rfl)⟩) (tw_preV hF hS hFc hPc hKc hDc (va_recv hKc hPc (ci := 3) (q0 := 0) rfl rfl)) rfl rfl hl.1 rfl (lv_room (Nat.le_of_ble_eq_true rfl)) dX6_meanWait_25 ⟨(Nat.le_of_ble_eq_true rfl), (Nat.le_of_ble_eq_true rfl)⟩) hS (fun q _ h => hFc q h) hFc (fun r u t H locs ht hvm hw hB hz1 hk1 hS => ?_)
  obtain ⟨q_1, rfl, rfl⟩ := hw
  obtain ⟨hP, hD, hK⟩ := tw_join (wr := [(mm, .inr (10, [.int 1, .int 9, .int 0, .int 99, .ref c2, .ref ps2, .ref pr, .int 0, .int 0, .int ((-1)), .ref l2, .long 0]))]) hP hD hK [1] [0] rfl rfl (by decide) (by decide) hk1 hFc ht hvm hB
  have hP : va_P D vwCl [(mm, .inr (10, [.int 1, .int 9, .int 0, .int 99, .ref c2, .ref ps2, .ref pr, .int 0, .int 0, .int ((-1)), .ref l2, .long 0])), (q_1, .inr (2, [.int 0, .int ((-1)), .int 0, .ref ps2])), (ps2, .inr (3, [.int 0, .ref em, .int 0]))] _ := hP
  have hD : va_D A [(mm, .inr (10, [.int 1, .int 9, .int 0, .int 99, .ref c2, .ref ps2, .ref pr, .int 0, .int 0, .int ((-1)), .ref l2, .long 0])), (q_1, .inr (2, [.int 0, .int ((-1)), .int 0, .ref ps2])), (ps2, .inr (3, [.int 0, .ref em, .int 0]))] := hD
  have hK : va_K D vwCl [] s := hK
  refine W.widen (k := 1) (n := 4) (Nat.le_refl _) (Nat.le_refl _) ?_
  refine W.eq (g2 := F0 m 28 ls [.ref q_1]) rfl ?_
  refine lv_astore_n (lv' := [(2, .ref q_1), (1, .int 0), (0, .ref mm)]) hx hb dX6_meanWait_28 rfl hl (by decide) rfl (fun ls hl => ?_)
  refine lv_aload_n hx hb dX6_meanWait_29 rfl (lv_at hl 0 rfl) ?_
  have hPc := hP.sub (ws' := [(q_1, .inr (2, [.int 0, .int ((-1)), .int 0, .ref ps2])), (ps2, .inr (3, [.int 0, .ref em, .int 0]))]) [1, 2] rfl
  have hDc := hD.sub (ws' := [(q_1, .inr (2, [.int 0, .int ((-1)), .int 0, .ref ps2])), (ps2, .inr (3, [.int 0, .ref em, .int 0]))]) [1, 2] (by decide) rfl
  have hKc := hK.sub (tys' := []) [] rfl
  have hFc := va_free (wc := [(q_1, .inr (2, [.int 0, .int ((-1)), .int 0, .ref ps2])), (ps2, .inr (3, [.int 0, .ref em, .int 0]))]) hD hS hA [1, 2] rfl
  refine va_callFi (va_runF (hKc.1 2 _ rfl).2 (As := []) (rest := []) ⟨hx, hb, hml, hown, hts⟩ (c_Jx35411_hasNext_aae02 l hst em kw kb D q_1 ps2 em _) (va_cwF 0 hts gX6_meanWait_Jx35411_hasNext_aae02_f64Jx35411 rfl rfl rfl (tw_fw hF) (by decide +kernel) ⟨(Nat.le_of_ble_eq_true rfl), (Nat.le_of_ble_eq_true rfl)⟩) (tw_preV hF hS hFc hPc hKc hDc (va_recv hKc hPc (ci := 2) (q0 := 0) rfl rfl)) rfl rfl hl.1 rfl (lv_room (Nat.le_of_ble_eq_true rfl)) dX6_meanWait_30 ⟨(Nat.le_of_ble_eq_true rfl), (Nat.le_of_ble_eq_true rfl)⟩) hS (fun q _ h => hFc q h) hFc (fun r u t H locs ht hvm hw hB hz1 hk1 hS => ?_)
  obtain ⟨rfl, rfl⟩ := hw
  obtain ⟨hP, hD, hK⟩ := tw_join (wr := [(mm, .inr (10, [.int 1, .int 9, .int 0, .int 99, .ref c2, .ref ps2, .ref pr, .int 0, .int 0, .int ((-1)), .ref l2, .long 0]))]) hP hD hK [1, 2] [0] rfl rfl (by decide) (by decide) hk1 hFc ht hvm hB
  have hP : va_P D vwCl [(mm, .inr (10, [.int 1, .int 9, .int 0, .int 99, .ref c2, .ref ps2, .ref pr, .int 0, .int 0, .int ((-1)), .ref l2, .long 0])), (q_1, .inr (2, [.int 0, .int ((-1)), .int 0, .ref ps2])), (ps2, .inr (3, [.int 0, .ref em, .int 0]))] _ := hP
  have hD : va_D A [(mm, .inr (10, [.int 1, .int 9, .int 0, .int 99, .ref c2, .ref ps2, .ref pr, .int 0, .int 0, .int ((-1)), .ref l2, .long 0])), (q_1, .inr (2, [.int 0, .int ((-1)), .int 0, .ref ps2])), (ps2, .inr (3, [.int 0, .ref em, .int 0]))] := hD
  have hK : va_K D vwCl [] s := hK
  refine W.widen (k := 1) (n := 4) (Nat.le_refl _) (Nat.le_refl _) ?_
  refine W.eq (g2 := F0 m 35 ls [.int 0]) rfl ?_
  refine lv_if_eq (tgt := 58) hx hb dX6_meanWait_35 (by decide) (fun c9 => ?_) (fun c9 => absurd c9 (by decide))
  refine lv_aload_n hx hb dX6_meanWait_58 rfl (lv_at hl 2 rfl) ?_
  refine va_get (D := D) (ci := 10) (v := .int 1) (C := RX6) (T := TX6) (N := 12) hx hb hts hiRX6 hown hK hP 0 rfl rfl 0 (by decide) (hts (.fieldLink RX6 38 "TowerliftryModel" "thrown" "I") (by decide +kernel)) (fun _ h9 => h9) rfl dX6_meanWait_59 ?_
  refine lv_if_le (tgt := 69) hx hb dX6_meanWait_62 (by decide) (fun c9 => absurd c9 (by decide)) (fun c9 => ?_)
  refine lv_dconst0 hx hb dX6_meanWait_65 ?_
  refine lv_goto (tgt := 80) hx hb dX6_meanWait_66 (by decide) ?_
  refine W.widen (k := 1) (n := 4) (Nat.le_of_ble_eq_true rfl) (Nat.le_of_ble_eq_true rfl) ?_
  have hP9 := hP.sub (ws' := [(mm, .inr (10, [.int 1, .int 9, .int 0, .int 99, .ref c2, .ref ps2, .ref pr, .int 0, .int 0, .int ((-1)), .ref l2, .long 0]))]) [0] rfl
  have hD9 := hD.sub (ws' := [(mm, .inr (10, [.int 1, .int 9, .int 0, .int 99, .ref c2, .ref ps2, .ref pr, .int 0, .int 0, .int ((-1)), .ref l2, .long 0]))]) [0] (by decide) rfl
  have hK9 := hK.sub (tys' := []) [] rfl
  exact W.dret (v := FP.dconst0) hx hb hr (fun t ht hW => ⟨⟨FP.dconst0, ([(mm, .inr (10, [.int 1, .int 9, .int 0, .int 99, .ref c2, .ref ps2, .ref pr, .int 0, .int 0, .int ((-1)), .ref l2, .long 0]))], []), rfl, ⟨rfl, rfl⟩, by rw [ht]; exact hP9, va_K.moved hW.alike hK9, hD9⟩, hS.F ht⟩) hS.2.2 dX6_meanWait_80
set_option maxHeartbeats 4000000 in
set_option maxRecDepth 100000 in
theorem c_X6_isTrue (l : Launch) (hst : l.stackTraces = false) (em kw kb : Nat) (D : va_G) (mm : Nat) (c2 : Nat) (ps2 : Nat) (pr : Nat) (l2 : Nat) (sz : Nat) : Met l yX6_isTrue wsX6_isTrue ({ frames := 0, cells := 0, slots := 0, locals := 0 }) (va_Pc [.ref mm] (tw_Pre em kw kb D sz [(mm, .inr (10, [.int 0, .int 9, .int 0, .int 99, .ref c2, .ref ps2, .ref pr, .int 0, .int 0, .int ((-1)), .ref l2, .long 0]))] [])) (va_Qi (fun (r : Int32) (u : tw_U) => r = 1 ∧ u = ([(mm, .inr (10, [.int 0, .int 9, .int 0, .int 99, .ref c2, .ref ps2, .ref pr, .int 0, .int 0, .int ((-1)), .ref l2, .long 0]))], [])) (tw_B D (va_A [(mm, .inr (10, [.int 0, .int 9, .int 0, .int 99, .ref c2, .ref ps2, .ref pr, .int 0, .int 0, .int ((-1)), .ref l2, .long 0]))] sz)) (va_A [(mm, .inr (10, [.int 0, .int 9, .int 0, .int 99, .ref c2, .ref ps2, .ref pr, .int 0, .int 0, .int ((-1)), .ref l2, .long 0]))] sz)) 0 0 (va_A [(mm, .inr (10, [.int 0, .int 9, .int 0, .int 99, .ref c2, .ref ps2, .ref pr, .int 0, .int 0, .int ((-1)), .ref l2, .long 0]))] sz) := by
  refine Met.ofW (cc := cX6_isTrue) (maxL := 1) (ret := (some .boolean)) (by decide) rfl ?_
  intro p e s m args below meth c s₁ B hml hv
  obtain ⟨rfl, hsz, hP, hK, hD0, hF⟩ := hv
  have hx := B.exec
  have hb := B.bytes
  have hr := B.returns
  have hts := atoms_spec (ws := wsX6_isTrue) B.pre
  have hown : s.vm.findClass RX6 = some m.cls := findClass_of_methodNamed B.named
  have hlocks := B.notSynchronized
  have hiRX6 : ∀ w ∈ u_ws RX6 TX6 12, w ∈ wsX6_isTrue := by decide +kernel
  subst hsz
  have hD := hD0.self (sz := s.heap.size)
  generalize hAe : va_A [(mm, .inr (10, [.int 0, .int 9, .int 0, .int 99, .ref c2, .ref ps2, .ref pr, .int 0, .int 0, .int ((-1)), .ref l2, .long 0]))] s.heap.size = A at hD hF ⊢
  have hA : ∀ q : Nat, s.heap.size ≤ q → A q := fun q h => by rw [← hAe]; exact Or.inr h
  have hS : va_S A s.heap s.heap [] := va_S.rf
  have hP : va_P D vwCl [(mm, .inr (10, [.int 0, .int 9, .int 0, .int 99, .ref c2, .ref ps2, .ref pr, .int 0, .int 0, .int ((-1)), .ref l2, .long 0]))] s.heap := hP
  have hl := lv_entry ([.ref mm]) (n := 1) (Nat.le_of_ble_eq_true rfl)
  rw [lg_entry_eq]
  generalize (lg_sl ([.ref mm]) ++ List.replicate (1 - (lg_sl ([.ref mm])).length) Slot.unset).toArray = ls at hl ⊢
  have hl : lv_has ls 1 [(0, .ref mm)] := hl
  refine lv_aload_n hx hb dX6_isTrue_0 rfl (lv_at hl 0 rfl) ?_
  refine lv_iconst (v := 0) hx hb dX6_isTrue_1 (by decide) ?_
  refine va_put (D := D) (ci := 10) (v := .int 0) (ty := .int) (C := RX6) (T := TX6) (N := 12) hx hb hts hiRX6 tyX6 tyX6_ok nmX6 hown hK hP hD hS 0 rfl rfl 0 (by decide) (hts (.fieldLink RX6 38 "TowerliftryModel" "thrown" "I") (by decide +kernel)) (fun _ h9 => h9) rfl (by decide +kernel) rfl rfl (Nat.le_of_ble_eq_true rfl) dX6_isTrue_2 (fun H locs hP hD hS => ?_)
  have hP : va_P D vwCl [(mm, .inr (10, [.int 0, .int 9, .int 0, .int 99, .ref c2, .ref ps2, .ref pr, .int 0, .int 0, .int ((-1)), .ref l2, .long 0]))] _ := hP
  have hD : va_D A [(mm, .inr (10, [.int 0, .int 9, .int 0, .int 99, .ref c2, .ref ps2, .ref pr, .int 0, .int 0, .int ((-1)), .ref l2, .long 0]))] := hD
  refine lv_iconst (v := 1) hx hb dX6_isTrue_5 (by decide) ?_
  refine W.widen (k := 0) (n := 0) (Nat.le_of_ble_eq_true rfl) (Nat.le_of_ble_eq_true rfl) ?_
  have hP9 := hP.sub (ws' := [(mm, .inr (10, [.int 0, .int 9, .int 0, .int 99, .ref c2, .ref ps2, .ref pr, .int 0, .int 0, .int ((-1)), .ref l2, .long 0]))]) [0] rfl
  have hD9 := hD.sub (ws' := [(mm, .inr (10, [.int 0, .int 9, .int 0, .int 99, .ref c2, .ref ps2, .ref pr, .int 0, .int 0, .int ((-1)), .ref l2, .long 0]))]) [0] (by decide) rfl
  have hK9 := hK.sub (tys' := []) [] rfl
  exact W.zret (v := 1) (ty := .boolean) hx hb hr (by decide) (fun t ht hW => ⟨⟨1, ([(mm, .inr (10, [.int 0, .int 9, .int 0, .int 99, .ref c2, .ref ps2, .ref pr, .int 0, .int 0, .int ((-1)), .ref l2, .long 0]))], []), rfl, ⟨rfl, rfl⟩, by rw [ht]; exact hP9, va_K.moved hW.alike hK9, hD9⟩, hS.F ht⟩) hS.2.2 dX6_isTrue_6
