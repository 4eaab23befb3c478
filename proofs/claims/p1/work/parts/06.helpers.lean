theorem dX3_bit_0 : decode cX3_bit 0 = .ok (.iconst 1, 1) := by decide +kernel
theorem dX3_bit_1 : decode cX3_bit 1 = .ok (.iload_n 0, 1) := by decide +kernel
theorem dX3_bit_2 : decode cX3_bit 2 = .ok (.ishl, 1) := by decide +kernel
theorem dX3_bit_3 : decode cX3_bit 3 = .ok (.ireturn, 1) := by decide +kernel
theorem dX3_has_0 : decode cX3_has 0 = .ok (.iload_n 0, 1) := by decide +kernel
theorem dX3_has_1 : decode cX3_has 1 = .ok (.iload_n 1, 1) := by decide +kernel
theorem dX3_has_2 : decode cX3_has 2 = .ok (.ishr, 1) := by decide +kernel
theorem dX3_has_3 : decode cX3_has 3 = .ok (.iconst 1, 1) := by decide +kernel
theorem dX3_has_4 : decode cX3_has 4 = .ok (.iand, 1) := by decide +kernel
theorem dX3_has_5 : decode cX3_has 5 = .ok (.ifCond .eq 7, 3) := by decide +kernel
theorem dX3_has_12 : decode cX3_has 12 = .ok (.iconst 0, 1) := by decide +kernel
theorem dX3_has_13 : decode cX3_has 13 = .ok (.ireturn, 1) := by decide +kernel
theorem dX3_has_8 : decode cX3_has 8 = .ok (.iconst 1, 1) := by decide +kernel
theorem dX3_has_9 : decode cX3_has 9 = .ok (.goto 4, 3) := by decide +kernel
theorem dX3_isFloor_0 : decode cX3_isFloor 0 = .ok (.iload_n 1, 1) := by decide +kernel
theorem dX3_isFloor_1 : decode cX3_isFloor 1 = .ok (.ifCond .lt 15, 3) := by decide +kernel
theorem dX3_isFloor_16 : decode cX3_isFloor 16 = .ok (.iconst 0, 1) := by decide +kernel
theorem dX3_isFloor_17 : decode cX3_isFloor 17 = .ok (.ireturn, 1) := by decide +kernel
theorem dX3_isFloor_4 : decode cX3_isFloor 4 = .ok (.iload_n 1, 1) := by decide +kernel
theorem dX3_isFloor_5 : decode cX3_isFloor 5 = .ok (.aload_n 0, 1) := by decide +kernel
theorem dX3_isFloor_6 : decode cX3_isFloor 6 = .ok (.getfield 26, 3) := by decide +kernel
theorem dX3_isFloor_9 : decode cX3_isFloor 9 = .ok (.if_icmp .gt 7, 3) := by decide +kernel
theorem dX3_isFloor_12 : decode cX3_isFloor 12 = .ok (.iconst 1, 1) := by decide +kernel
theorem dX3_isFloor_13 : decode cX3_isFloor 13 = .ok (.goto 4, 3) := by decide +kernel
theorem dX3_checkFloor_0 : decode cX3_checkFloor 0 = .ok (.aload_n 0, 1) := by decide +kernel
theorem dX3_checkFloor_1 : decode cX3_checkFloor 1 = .ok (.iload_n 1, 1) := by decide +kernel
set_option maxRecDepth 20000 in
theorem ggX3_checkFloor_X3_isFloor : GoodIn wsX3_checkFloor wsX3_isFloor := goodIn_r _ [7, 8, 9, 10, 11, 12, 13, 14, 15, 16, 17, 18, 19, 20] (by decide +kernel) (by decide +kernel)
set_option maxRecDepth 20000 in
theorem gX3_checkFloor_X3_isFloor : GoodIn wsX3_checkFloor (wsV RX3 53 RX3 yX3_isFloor wsX3_isFloor) := goodIn_app (goodIn_of _ (by decide +kernel)) ggX3_checkFloor_X3_isFloor
theorem dX3_checkFloor_2 : decode cX3_checkFloor 2 = .ok (.invokevirtual 53, 3) := by decide +kernel
theorem dX3_checkFloor_5 : decode cX3_checkFloor 5 = .ok (.ifCond .ne 14, 3) := by decide +kernel
theorem dX3_checkFloor_8 : decode cX3_checkFloor 8 = .ok (.new 37, 3) := by decide +kernel
theorem dX3_checkFloor_11 : decode cX3_checkFloor 11 = .ok (.dup, 1) := by decide +kernel
theorem dX3_checkFloor_12 : decode cX3_checkFloor 12 = .ok (.ldc_w 265, 3) := by decide +kernel
theorem dX3_checkFloor_15 : decode cX3_checkFloor 15 = .ok (.invokespecial 41, 3) := by decide +kernel
theorem dX3_checkFloor_18 : decode cX3_checkFloor 18 = .ok (.athrow, 1) := by decide +kernel
theorem dX3_checkFloor_19 : decode cX3_checkFloor 19 = .ok (.return_, 1) := by decide +kernel
theorem dX3_carOf_0 : decode cX3_carOf 0 = .ok (.iload_n 1, 1) := by decide +kernel
theorem dX3_carOf_1 : decode cX3_carOf 1 = .ok (.ifCond .lt 14, 3) := by decide +kernel
theorem dX3_carOf_15 : decode cX3_carOf 15 = .ok (.new 267, 3) := by decide +kernel
theorem dX3_carOf_18 : decode cX3_carOf 18 = .ok (.dup, 1) := by decide +kernel
theorem dX3_carOf_19 : decode cX3_carOf 19 = .ok (.ldc_w 272, 3) := by decide +kernel
theorem dX3_carOf_22 : decode cX3_carOf 22 = .ok (.invokespecial 271, 3) := by decide +kernel
theorem dX3_carOf_25 : decode cX3_carOf 25 = .ok (.athrow, 1) := by decide +kernel
theorem dX3_carOf_4 : decode cX3_carOf 4 = .ok (.iload_n 1, 1) := by decide +kernel
theorem dX3_carOf_5 : decode cX3_carOf 5 = .ok (.aload_n 0, 1) := by decide +kernel
theorem dX3_carOf_6 : decode cX3_carOf 6 = .ok (.getfield 10, 3) := by decide +kernel
set_option maxRecDepth 20000 in
theorem ggX3_carOf_Jx4a65c_size_8abf5 : GoodIn wsX3_carOf wsJx4a65c_size_8abf5 := goodIn_r _ [9, 10, 40, 41, 42] (by decide +kernel) (by decide +kernel)
set_option maxRecDepth 20000 in
theorem gX3_carOf_Jx4a65c_size_8abf5 : GoodIn wsX3_carOf (wsV RX3 75 RJx4a65c yJx4a65c_size_8abf5 wsJx4a65c_size_8abf5) := goodIn_app (goodIn_of _ (by decide +kernel)) ggX3_carOf_Jx4a65c_size_8abf5
theorem dX3_carOf_9 : decode cX3_carOf 9 = .ok (.invokevirtual 75, 3) := by decide +kernel
theorem dX3_carOf_12 : decode cX3_carOf 12 = .ok (.if_icmp .lt 14, 3) := by decide +kernel
theorem dX3_personOf_0 : decode cX3_personOf 0 = .ok (.iload_n 1, 1) := by decide +kernel
theorem dX3_personOf_1 : decode cX3_personOf 1 = .ok (.ifCond .lt 14, 3) := by decide +kernel
theorem dX3_personOf_15 : decode cX3_personOf 15 = .ok (.new 267, 3) := by decide +kernel
theorem dX3_personOf_18 : decode cX3_personOf 18 = .ok (.dup, 1) := by decide +kernel
theorem dX3_personOf_19 : decode cX3_personOf 19 = .ok (.ldc_w 274, 3) := by decide +kernel
theorem dX3_personOf_22 : decode cX3_personOf 22 = .ok (.invokespecial 271, 3) := by decide +kernel
theorem dX3_personOf_25 : decode cX3_personOf 25 = .ok (.athrow, 1) := by decide +kernel
theorem dX3_personOf_4 : decode cX3_personOf 4 = .ok (.iload_n 1, 1) := by decide +kernel
theorem dX3_personOf_5 : decode cX3_personOf 5 = .ok (.aload_n 0, 1) := by decide +kernel
theorem dX3_personOf_6 : decode cX3_personOf 6 = .ok (.getfield 16, 3) := by decide +kernel
set_option maxRecDepth 20000 in
theorem ggX3_personOf_Jx4a65c_size_8abf5 : GoodIn wsX3_personOf wsJx4a65c_size_8abf5 := goodIn_r _ [9, 10, 40, 41, 42] (by decide +kernel) (by decide +kernel)
set_option maxRecDepth 20000 in
theorem gX3_personOf_Jx4a65c_size_8abf5 : GoodIn wsX3_personOf (wsV RX3 75 RJx4a65c yJx4a65c_size_8abf5 wsJx4a65c_size_8abf5) := goodIn_app (goodIn_of _ (by decide +kernel)) ggX3_personOf_Jx4a65c_size_8abf5
theorem dX3_personOf_9 : decode cX3_personOf 9 = .ok (.invokevirtual 75, 3) := by decide +kernel
theorem dX3_personOf_12 : decode cX3_personOf 12 = .ok (.if_icmp .lt 14, 3) := by decide +kernel
theorem dX3_checkEntry_0 : decode cX3_checkEntry 0 = .ok (.iload_n 1, 1) := by decide +kernel
theorem dX3_checkEntry_1 : decode cX3_checkEntry 1 = .ok (.ifCond .lt 14, 3) := by decide +kernel
theorem dX3_checkEntry_15 : decode cX3_checkEntry 15 = .ok (.new 267, 3) := by decide +kernel
theorem dX3_checkEntry_18 : decode cX3_checkEntry 18 = .ok (.dup, 1) := by decide +kernel
theorem dX3_checkEntry_19 : decode cX3_checkEntry 19 = .ok (.ldc_w 269, 3) := by decide +kernel
theorem dX3_checkEntry_22 : decode cX3_checkEntry 22 = .ok (.invokespecial 271, 3) := by decide +kernel
theorem dX3_checkEntry_25 : decode cX3_checkEntry 25 = .ok (.athrow, 1) := by decide +kernel
theorem dX3_checkEntry_4 : decode cX3_checkEntry 4 = .ok (.iload_n 1, 1) := by decide +kernel
theorem dX3_checkEntry_5 : decode cX3_checkEntry 5 = .ok (.aload_n 0, 1) := by decide +kernel
theorem dX3_checkEntry_6 : decode cX3_checkEntry 6 = .ok (.getfield 22, 3) := by decide +kernel
theorem dX3_checkEntry_9 : decode cX3_checkEntry 9 = .ok (.getfield 221, 3) := by decide +kernel
theorem dX3_checkEntry_12 : decode cX3_checkEntry 12 = .ok (.if_icmp .lt 14, 3) := by decide +kernel
theorem dX3_firstIn_0 : decode cX3_firstIn 0 = .ok (.iconst 0, 1) := by decide +kernel
theorem dX3_firstIn_1 : decode cX3_firstIn 1 = .ok (.istore_n 2, 1) := by decide +kernel
theorem dX3_firstIn_2 : decode cX3_firstIn 2 = .ok (.iload_n 2, 1) := by decide +kernel
theorem dX3_firstIn_3 : decode cX3_firstIn 3 = .ok (.aload_n 0, 1) := by decide +kernel
theorem dX3_firstIn_4 : decode cX3_firstIn 4 = .ok (.getfield 10, 3) := by decide +kernel
set_option maxRecDepth 20000 in
theorem ggX3_firstIn_Jx4a65c_size_8abf5 : GoodIn wsX3_firstIn wsJx4a65c_size_8abf5 := goodIn_r _ [8, 9, 58, 59, 60] (by decide +kernel) (by decide +kernel)
set_option maxRecDepth 20000 in
theorem gX3_firstIn_Jx4a65c_size_8abf5 : GoodIn wsX3_firstIn (wsV RX3 75 RJx4a65c yJx4a65c_size_8abf5 wsJx4a65c_size_8abf5) := goodIn_app (goodIn_of _ (by decide +kernel)) ggX3_firstIn_Jx4a65c_size_8abf5
theorem dX3_firstIn_7 : decode cX3_firstIn 7 = .ok (.invokevirtual 75, 3) := by decide +kernel
theorem dX3_firstIn_10 : decode cX3_firstIn 10 = .ok (.if_icmp .ge 39, 3) := by decide +kernel
theorem dX3_firstIn_49 : decode cX3_firstIn 49 = .ok (.aconst_null, 1) := by decide +kernel
theorem dX3_firstIn_50 : decode cX3_firstIn 50 = .ok (.areturn, 1) := by decide +kernel
theorem dX3_countIn_0 : decode cX3_countIn 0 = .ok (.iconst 0, 1) := by decide +kernel
theorem dX3_countIn_1 : decode cX3_countIn 1 = .ok (.istore_n 2, 1) := by decide +kernel
theorem dX3_countIn_2 : decode cX3_countIn 2 = .ok (.iconst 0, 1) := by decide +kernel
theorem dX3_countIn_3 : decode cX3_countIn 3 = .ok (.istore_n 3, 1) := by decide +kernel
theorem dX3_countIn_4 : decode cX3_countIn 4 = .ok (.iload_n 3, 1) := by decide +kernel
theorem dX3_countIn_5 : decode cX3_countIn 5 = .ok (.aload_n 0, 1) := by decide +kernel
theorem dX3_countIn_6 : decode cX3_countIn 6 = .ok (.getfield 16, 3) := by decide +kernel
set_option maxRecDepth 20000 in
theorem ggX3_countIn_Jx4a65c_size_8abf5 : GoodIn wsX3_countIn wsJx4a65c_size_8abf5 := goodIn_r _ [8, 9, 46, 47, 48] (by decide +kernel) (by decide +kernel)
set_option maxRecDepth 20000 in
theorem gX3_countIn_Jx4a65c_size_8abf5 : GoodIn wsX3_countIn (wsV RX3 75 RJx4a65c yJx4a65c_size_8abf5 wsJx4a65c_size_8abf5) := goodIn_app (goodIn_of _ (by decide +kernel)) ggX3_countIn_Jx4a65c_size_8abf5
theorem dX3_countIn_9 : decode cX3_countIn 9 = .ok (.invokevirtual 75, 3) := by decide +kernel
theorem dX3_countIn_12 : decode cX3_countIn 12 = .ok (.if_icmp .ge 30, 3) := by decide +kernel
theorem dX3_countIn_42 : decode cX3_countIn 42 = .ok (.iload_n 2, 1) := by decide +kernel
theorem dX3_countIn_43 : decode cX3_countIn 43 = .ok (.ireturn, 1) := by decide +kernel
theorem dX0_servedBetween_0 : decode cX0_servedBetween 0 = .ok (.iload_n 1, 1) := by decide +kernel
theorem dX0_servedBetween_1 : decode cX0_servedBetween 1 = .ok (.iconst 1, 1) := by decide +kernel
theorem dX0_servedBetween_2 : decode cX0_servedBetween 2 = .ok (.iadd, 1) := by decide +kernel
set_option maxRecDepth 20000 in
theorem ggX0_servedBetween_X3_bit : GoodIn wsX0_servedBetween wsX3_bit := goodIn_r _ [3] (by decide +kernel) (by decide +kernel)
set_option maxRecDepth 20000 in
theorem gX0_servedBetween_X3_bit_n40 : GoodIn wsX0_servedBetween (wsX3_bit) := ggX0_servedBetween_X3_bit
theorem dX0_servedBetween_3 : decode cX0_servedBetween 3 = .ok (.invokestatic 40, 3) := by decide +kernel
theorem dX0_servedBetween_6 : decode cX0_servedBetween 6 = .ok (.iconst 1, 1) := by decide +kernel
theorem dX0_servedBetween_7 : decode cX0_servedBetween 7 = .ok (.isub, 1) := by decide +kernel
theorem dX0_servedBetween_8 : decode cX0_servedBetween 8 = .ok (.iload_n 0, 1) := by decide +kernel
theorem dX0_servedBetween_9 : decode cX0_servedBetween 9 = .ok (.invokestatic 40, 3) := by decide +kernel
theorem dX0_servedBetween_12 : decode cX0_servedBetween 12 = .ok (.iconst 1, 1) := by decide +kernel
theorem dX0_servedBetween_13 : decode cX0_servedBetween 13 = .ok (.isub, 1) := by decide +kernel
theorem dX0_servedBetween_14 : decode cX0_servedBetween 14 = .ok (.iconst (-1), 1) := by decide +kernel
theorem dX0_servedBetween_15 : decode cX0_servedBetween 15 = .ok (.ixor, 1) := by decide +kernel
theorem dX0_servedBetween_16 : decode cX0_servedBetween 16 = .ok (.iand, 1) := by decide +kernel
theorem dX0_servedBetween_17 : decode cX0_servedBetween 17 = .ok (.istore_n 3, 1) := by decide +kernel
theorem dX0_servedBetween_18 : decode cX0_servedBetween 18 = .ok (.iconst 0, 1) := by decide +kernel
theorem dX0_servedBetween_19 : decode cX0_servedBetween 19 = .ok (.invokestatic 40, 3) := by decide +kernel
theorem dX0_servedBetween_22 : decode cX0_servedBetween 22 = .ok (.iload_n 2, 1) := by decide +kernel
theorem dX0_servedBetween_23 : decode cX0_servedBetween 23 = .ok (.invokestatic 40, 3) := by decide +kernel
theorem dX0_servedBetween_26 : decode cX0_servedBetween 26 = .ok (.iconst 1, 1) := by decide +kernel
theorem dX0_servedBetween_27 : decode cX0_servedBetween 27 = .ok (.isub, 1) := by decide +kernel
theorem dX0_servedBetween_28 : decode cX0_servedBetween 28 = .ok (.iconst (-1), 1) := by decide +kernel
theorem dX0_servedBetween_29 : decode cX0_servedBetween 29 = .ok (.ixor, 1) := by decide +kernel
theorem dX0_servedBetween_30 : decode cX0_servedBetween 30 = .ok (.ior, 1) := by decide +kernel
theorem dX0_servedBetween_31 : decode cX0_servedBetween 31 = .ok (.istore 4, 2) := by decide +kernel
theorem dX0_servedBetween_33 : decode cX0_servedBetween 33 = .ok (.iload_n 3, 1) := by decide +kernel
theorem dX0_servedBetween_34 : decode cX0_servedBetween 34 = .ok (.iload 4, 2) := by decide +kernel
theorem dX0_servedBetween_36 : decode cX0_servedBetween 36 = .ok (.iand, 1) := by decide +kernel
theorem dX0_servedBetween_37 : decode cX0_servedBetween 37 = .ok (.ireturn, 1) := by decide +kernel
theorem dX0_init_0 : decode cX0_init 0 = .ok (.aload_n 0, 1) := by decide +kernel
theorem dX0_init_1 : decode cX0_init 1 = .ok (.invokespecial 3, 3) := by decide +kernel
theorem dX0_init_4 : decode cX0_init 4 = .ok (.aload_n 0, 1) := by decide +kernel
theorem dX0_init_5 : decode cX0_init 5 = .ok (.iload_n 1, 1) := by decide +kernel
theorem dX0_init_6 : decode cX0_init 6 = .ok (.putfield 9, 3) := by decide +kernel
theorem dX0_init_9 : decode cX0_init 9 = .ok (.aload_n 0, 1) := by decide +kernel
theorem dX0_init_10 : decode cX0_init 10 = .ok (.iload_n 2, 1) := by decide +kernel
theorem dX0_init_11 : decode cX0_init 11 = .ok (.putfield 15, 3) := by decide +kernel
theorem dX0_init_14 : decode cX0_init 14 = .ok (.aload_n 0, 1) := by decide +kernel
theorem dX0_init_15 : decode cX0_init 15 = .ok (.iload_n 3, 1) := by decide +kernel
theorem dX0_init_16 : decode cX0_init 16 = .ok (.putfield 18, 3) := by decide +kernel
theorem dX0_init_19 : decode cX0_init 19 = .ok (.aload_n 0, 1) := by decide +kernel
theorem dX0_init_20 : decode cX0_init 20 = .ok (.iload 4, 2) := by decide +kernel
theorem dX0_init_22 : decode cX0_init 22 = .ok (.putfield 21, 3) := by decide +kernel
theorem dX0_init_25 : decode cX0_init 25 = .ok (.aload_n 0, 1) := by decide +kernel
theorem dX0_init_26 : decode cX0_init 26 = .ok (.iload 5, 2) := by decide +kernel
theorem dX0_init_28 : decode cX0_init 28 = .ok (.putfield 24, 3) := by decide +kernel
theorem dX0_init_31 : decode cX0_init 31 = .ok (.aload_n 0, 1) := by decide +kernel
theorem dX0_init_32 : decode cX0_init 32 = .ok (.iconst (-1), 1) := by decide +kernel
theorem dX0_init_33 : decode cX0_init 33 = .ok (.putfield 27, 3) := by decide +kernel
theorem dX0_init_36 : decode cX0_init 36 = .ok (.aload_n 0, 1) := by decide +kernel
theorem dX0_init_37 : decode cX0_init 37 = .ok (.iconst (-1), 1) := by decide +kernel
theorem dX0_init_38 : decode cX0_init 38 = .ok (.putfield 30, 3) := by decide +kernel
theorem dX0_init_41 : decode cX0_init 41 = .ok (.aload_n 0, 1) := by decide +kernel
theorem dX0_init_42 : decode cX0_init 42 = .ok (.iconst 0, 1) := by decide +kernel
theorem dX0_init_43 : decode cX0_init 43 = .ok (.iload 5, 2) := by decide +kernel
theorem dX0_init_45 : decode cX0_init 45 = .ok (.iload 4, 2) := by decide +kernel
set_option maxRecDepth 20000 in
theorem ggX0_init_X0_servedBetween : GoodIn wsX0_init wsX0_servedBetween := goodIn_r _ [15, 16, 17, 18] (by decide +kernel) (by decide +kernel)
set_option maxRecDepth 20000 in
theorem gX0_init_X0_servedBetween : GoodIn wsX0_init (va_wsS RX0 33 yX0_servedBetween wsX0_servedBetween) := goodIn_app (goodIn_of _ (by decide +kernel)) ggX0_init_X0_servedBetween
theorem dX0_init_47 : decode cX0_init 47 = .ok (.invokestatic 33, 3) := by decide +kernel
theorem dX0_init_50 : decode cX0_init 50 = .ok (.putfield 37, 3) := by decide +kernel
theorem dX0_init_53 : decode cX0_init 53 = .ok (.return_, 1) := by decide +kernel
theorem dX2_init_0 : decode cX2_init 0 = .ok (.aload_n 0, 1) := by decide +kernel
theorem dX2_init_1 : decode cX2_init 1 = .ok (.invokespecial 1, 3) := by decide +kernel
theorem dX2_init_4 : decode cX2_init 4 = .ok (.aload_n 0, 1) := by decide +kernel
theorem dX2_init_5 : decode cX2_init 5 = .ok (.iload_n 1, 1) := by decide +kernel
theorem dX2_init_6 : decode cX2_init 6 = .ok (.putfield 7, 3) := by decide +kernel
theorem dX2_init_9 : decode cX2_init 9 = .ok (.aload_n 0, 1) := by decide +kernel
theorem dX2_init_10 : decode cX2_init 10 = .ok (.iload_n 2, 1) := by decide +kernel
theorem dX2_init_11 : decode cX2_init 11 = .ok (.putfield 13, 3) := by decide +kernel
theorem dX2_init_14 : decode cX2_init 14 = .ok (.aload_n 0, 1) := by decide +kernel
theorem dX2_init_15 : decode cX2_init 15 = .ok (.iload_n 3, 1) := by decide +kernel
theorem dX2_init_16 : decode cX2_init 16 = .ok (.putfield 16, 3) := by decide +kernel
theorem dX2_init_19 : decode cX2_init 19 = .ok (.aload_n 0, 1) := by decide +kernel
theorem dX2_init_20 : decode cX2_init 20 = .ok (.iload 4, 2) := by decide +kernel
theorem dX2_init_22 : decode cX2_init 22 = .ok (.putfield 19, 3) := by decide +kernel
theorem dX2_init_25 : decode cX2_init 25 = .ok (.aload_n 0, 1) := by decide +kernel
theorem dX2_init_26 : decode cX2_init 26 = .ok (.bipush 119, 2) := by decide +kernel
theorem dX2_init_28 : decode cX2_init 28 = .ok (.putfield 22, 3) := by decide +kernel
theorem dX2_init_31 : decode cX2_init 31 = .ok (.return_, 1) := by decide +kernel
theorem dX3_noteWaiting_0 : decode cX3_noteWaiting 0 = .ok (.aload_n 1, 1) := by decide +kernel
theorem dX3_noteWaiting_1 : decode cX3_noteWaiting 1 = .ok (.getfield 297, 3) := by decide +kernel
theorem dX3_noteWaiting_4 : decode cX3_noteWaiting 4 = .ok (.aload_n 1, 1) := by decide +kernel
theorem dX3_noteWaiting_5 : decode cX3_noteWaiting 5 = .ok (.getfield 139, 3) := by decide +kernel
theorem dX3_noteWaiting_8 : decode cX3_noteWaiting 8 = .ok (.if_icmp .le 22, 3) := by decide +kernel
theorem dX3_noteWaiting_30 : decode cX3_noteWaiting 30 = .ok (.aload_n 0, 1) := by decide +kernel
theorem dX3_noteWaiting_31 : decode cX3_noteWaiting 31 = .ok (.dup, 1) := by decide +kernel
theorem dX3_noteWaiting_32 : decode cX3_noteWaiting 32 = .ok (.getfield 288, 3) := by decide +kernel
theorem dX3_noteWaiting_35 : decode cX3_noteWaiting 35 = .ok (.aload_n 1, 1) := by decide +kernel
theorem dX3_noteWaiting_36 : decode cX3_noteWaiting 36 = .ok (.getfield 139, 3) := by decide +kernel
set_option maxRecDepth 20000 in
theorem ggX3_noteWaiting_X3_bit : GoodIn wsX3_noteWaiting wsX3_bit := goodIn_r _ [8] (by decide +kernel) (by decide +kernel)
set_option maxRecDepth 20000 in
theorem gX3_noteWaiting_X3_bit : GoodIn wsX3_noteWaiting (va_wsS RX3 300 yX3_bit wsX3_bit) := goodIn_app (goodIn_of _ (by decide +kernel)) ggX3_noteWaiting_X3_bit
theorem dX3_noteWaiting_39 : decode cX3_noteWaiting 39 = .ok (.invokestatic 300, 3) := by decide +kernel
theorem dX3_noteWaiting_42 : decode cX3_noteWaiting 42 = .ok (.ior, 1) := by decide +kernel
theorem dX3_noteWaiting_43 : decode cX3_noteWaiting 43 = .ok (.putfield 288, 3) := by decide +kernel
theorem dX3_noteWaiting_46 : decode cX3_noteWaiting 46 = .ok (.return_, 1) := by decide +kernel
theorem dX3_noteWaiting_11 : decode cX3_noteWaiting 11 = .ok (.aload_n 0, 1) := by decide +kernel
theorem dX3_noteWaiting_12 : decode cX3_noteWaiting 12 = .ok (.dup, 1) := by decide +kernel
theorem dX3_noteWaiting_13 : decode cX3_noteWaiting 13 = .ok (.getfield 285, 3) := by decide +kernel
theorem dX3_noteWaiting_16 : decode cX3_noteWaiting 16 = .ok (.aload_n 1, 1) := by decide +kernel
theorem dX3_noteWaiting_17 : decode cX3_noteWaiting 17 = .ok (.getfield 139, 3) := by decide +kernel
theorem dX3_noteWaiting_20 : decode cX3_noteWaiting 20 = .ok (.invokestatic 300, 3) := by decide +kernel
theorem dX3_noteWaiting_23 : decode cX3_noteWaiting 23 = .ok (.ior, 1) := by decide +kernel
theorem dX3_noteWaiting_24 : decode cX3_noteWaiting 24 = .ok (.putfield 285, 3) := by decide +kernel
theorem dX3_noteWaiting_27 : decode cX3_noteWaiting 27 = .ok (.goto 19, 3) := by decide +kernel
set_option maxHeartbeats 4000000 in
set_option maxRecDepth 100000 in
theorem c_X3_bit (l : Launch) (hst : l.stackTraces = false) (em kw kb : Nat) (D : va_G) (p0 : Int32) (sz : Nat) : Met l yX3_bit wsX3_bit ({ frames := 0, cells := 0, slots := 0, locals := 0 }) (va_Pc [.int p0] (tw_Pre em kw kb D sz [] [])) (va_Qi (fun (r : Int32) (u : tw_U) => r = (1 : Int32) <<< (p0 &&& 31) ∧ u = ([], [])) (tw_B D (va_A [] sz)) (va_A [] sz)) 0 0 (va_A [] sz) := by
  refine Met.ofW (cc := cX3_bit) (maxL := 1) (ret := (some .int)) (by decide) rfl ?_
  intro p e s m args below meth c s₁ B hml hv
  obtain ⟨rfl, hsz, hP, hK, hD0, hF⟩ := hv
  have hx := B.exec
  have hb := B.bytes
  have hr := B.returns
  have hts := atoms_spec (ws := wsX3_bit) B.pre
  have hown : s.vm.findClass RX3 = some m.cls := findClass_of_methodNamed B.named
  have hlocks := B.notSynchronized
  subst hsz
  have hD := hD0.self (sz := s.heap.size)
  generalize hAe : va_A [] s.heap.size = A at hD hF ⊢
  have hA : ∀ q : Nat, s.heap.size ≤ q → A q := fun q h => by rw [← hAe]; exact Or.inr h
  have hS : va_S A s.heap s.heap [] := va_S.rf
  have hP : va_P D vwCl [] s.heap := hP
  have hl := lv_entry ([.int p0]) (n := 1) (Nat.le_of_ble_eq_true rfl)
  rw [lg_entry_eq]
  generalize (lg_sl ([.int p0]) ++ List.replicate (1 - (lg_sl ([.int p0])).length) Slot.unset).toArray = ls at hl ⊢
  have hl : lv_has ls 1 [(0, .int p0)] := hl
  refine lv_iconst (v := 1) hx hb dX3_bit_0 (by decide) ?_
  refine lv_iload_n hx hb dX3_bit_1 rfl (lv_at hl 0 rfl) ?_
  refine lv_ishl hx hb dX3_bit_2 ?_
  refine W.widen (k := 0) (n := 0) (Nat.le_of_ble_eq_true rfl) (Nat.le_of_ble_eq_true rfl) ?_
  have hP9 := hP.sub (ws' := []) [] rfl
  have hD9 := hD.sub (ws' := []) [] (by decide) rfl
  have hK9 := hK.sub (tys' := []) [] rfl
  exact W.iret (v := (1 : Int32) <<< (p0 &&& 31)) hx hb hr (fun t ht hW => ⟨⟨(1 : Int32) <<< (p0 &&& 31), ([], []), rfl, ⟨rfl, rfl⟩, by rw [ht]; exact hP9, va_K.moved hW.alike hK9, hD9⟩, hS.F ht⟩) hS.2.2 dX3_bit_3
set_option maxHeartbeats 4000000 in
set_option maxRecDepth 100000 in
theorem c_X3_has (l : Launch) (hst : l.stackTraces = false) (em kw kb : Nat) (D : va_G) (p0 : Int32) (p1 : Int32) (sz : Nat) : Met l yX3_has wsX3_has ({ frames := 0, cells := 0, slots := 0, locals := 0 }) (va_Pc [.int p0, .int p1] (tw_Pre em kw kb D sz [] [])) (va_Qi (fun (r : Int32) (u : tw_U) => ((((p0 >>> (p1 &&& 31)) &&& (1 : Int32)) = 0) ∧ r = 0 ∧ u = ([], [])) ∨ ((¬ ((p0 >>> (p1 &&& 31)) &&& (1 : Int32)) = 0) ∧ r = 1 ∧ u = ([], []))) (tw_B D (va_A [] sz)) (va_A [] sz)) 0 0 (va_A [] sz) := by
  refine Met.ofW (cc := cX3_has) (maxL := 2) (ret := (some .boolean)) (by decide) rfl ?_
  intro p e s m args below meth c s₁ B hml hv
  obtain ⟨rfl, hsz, hP, hK, hD0, hF⟩ := hv
  have hx := B.exec
  have hb := B.bytes
  have hr := B.returns
  have hts := atoms_spec (ws := wsX3_has) B.pre
  have hown : s.vm.findClass RX3 = some m.cls := findClass_of_methodNamed B.named
  have hlocks := B.notSynchronized
  subst hsz
  have hD := hD0.self (sz := s.heap.size)
  generalize hAe : va_A [] s.heap.size = A at hD hF ⊢
  have hA : ∀ q : Nat, s.heap.size ≤ q → A q := fun q h => by rw [← hAe]; exact Or.inr h
  have hS : va_S A s.heap s.heap [] := va_S.rf
  have hP : va_P D vwCl [] s.heap := hP
  have hl := lv_entry ([.int p0, .int p1]) (n := 2) (Nat.le_of_ble_eq_true rfl)
  rw [lg_entry_eq]
  generalize (lg_sl ([.int p0, .int p1]) ++ List.replicate (2 - (lg_sl ([.int p0, .int p1])).length) Slot.unset).toArray = ls at hl ⊢
  have hl : lv_has ls 2 [(0, .int p0), (1, .int p1)] := hl
  refine lv_iload_n hx hb dX3_has_0 rfl (lv_at hl 0 rfl) ?_
  refine lv_iload_n hx hb dX3_has_1 rfl (lv_at hl 1 rfl) ?_
  refine lv_ishr hx hb dX3_has_2 ?_
  refine lv_iconst (v := 1) hx hb dX3_has_3 (by decide) ?_
  refine lv_iand hx hb dX3_has_4 ?_
  refine lv_if_eq (tgt := 12) hx hb dX3_has_5 (by decide) (fun c_1 => ?_) (fun c_1 => ?_)
  · refine lv_iconst (v := 0) hx hb dX3_has_12 (by decide) ?_
    refine W.widen (k := 0) (n := 0) (Nat.le_of_ble_eq_true rfl) (Nat.le_of_ble_eq_true rfl) ?_
    have hP9 := hP.sub (ws' := []) [] rfl
    have hD9 := hD.sub (ws' := []) [] (by decide) rfl
    have hK9 := hK.sub (tys' := []) [] rfl
    exact W.zret (v := 0) (ty := .boolean) hx hb hr (by decide) (fun t ht hW => ⟨⟨0, ([], []), rfl, (Or.inl ⟨c_1, rfl, rfl⟩), by rw [ht]; exact hP9, va_K.moved hW.alike hK9, hD9⟩, hS.F ht⟩) hS.2.2 dX3_has_13
  · refine lv_iconst (v := 1) hx hb dX3_has_8 (by decide) ?_
    refine lv_goto (tgt := 13) hx hb dX3_has_9 (by decide) ?_
    refine W.widen (k := 0) (n := 0) (Nat.le_of_ble_eq_true rfl) (Nat.le_of_ble_eq_true rfl) ?_
    have hP9 := hP.sub (ws' := []) [] rfl
    have hD9 := hD.sub (ws' := []) [] (by decide) rfl
    have hK9 := hK.sub (tys' := []) [] rfl
    exact W.zret (v := 1) (ty := .boolean) hx hb hr (by decide) (fun t ht hW => ⟨⟨1, ([], []), rfl, (Or.inr (⟨c_1, rfl, rfl⟩)), by rw [ht]; exact hP9, va_K.moved hW.alike hK9, hD9⟩, hS.F ht⟩) hS.2.2 dX3_has_13
set_option maxHeartbeats 4000000 in
set_option maxRecDepth 100000 in
theorem c_X3_isFloor (l : Launch) (hst : l.stackTraces = false) (em kw kb : Nat) (D : va_G) (x : Nat) (p0 : Int32) (c1 : Nat) (ps1 : Nat) (lg : Nat) (sz : Nat) : Met l yX3_isFloor wsX3_isFloor ({ frames := 0, cells := 0, slots := 0, locals := 0 }) (va_Pc [.ref x, .int p0] (tw_Pre em kw kb D sz [(x, .inr (7, [.ref c1, .ref ps1, .ref lg, .int 9, .int 99, .int 0, .int 0, .int 0, .int ((-1)), .int 0, .int 0, .long 0]))] [])) (va_Qi (fun (r : Int32) (u : tw_U) => (((p0 < 0) ∨ (¬ p0 < 0 ∧ 9 < p0)) ∧ r = 0 ∧ u = ([(x, .inr (7, [.ref c1, .ref ps1, .ref lg, .int 9, .int 99, .int 0, .int 0, .int 0, .int ((-1)), .int 0, .int 0, .long 0]))], [])) ∨ ((¬ p0 < 0 ∧ ¬ 9 < p0) ∧ r = 1 ∧ u = ([(x, .inr (7, [.ref c1, .ref ps1, .ref lg, .int 9, .int 99, .int 0, .int 0, .int 0, .int ((-1)), .int 0, .int 0, .long 0]))], []))) (tw_B D (va_A [(x, .inr (7, [.ref c1, .ref ps1, .ref lg, .int 9, .int 99, .int 0, .int 0, .int 0, .int ((-1)), .int 0, .int 0, .long 0]))] sz)) (va_A [(x, .inr (7, [.ref c1, .ref ps1, .ref lg, .int 9, .int 99, .int 0, .int 0, .int 0, .int ((-1)), .int 0, .int 0, .long 0]))] sz)) 0 0 (va_A [(x, .inr (7, [.ref c1, .ref ps1, .ref lg, .int 9, .int 99, .int 0, .int 0, .int 0, .int ((-1)), .int 0, .int 0, .long 0]))] sz) := by
  refine Met.ofW (cc := cX3_isFloor) (maxL := 2) (ret := (some .boolean)) (by decide) rfl ?_
  intro p e s m args below meth c s₁ B hml hv
  obtain ⟨rfl, hsz, hP, hK, hD0, hF⟩ := hv
  have hx := B.exec
  have hb := B.bytes
  have hr := B.returns
  have hts := atoms_spec (ws := wsX3_isFloor) B.pre
  have hown : s.vm.findClass RX3 = some m.cls := findClass_of_methodNamed B.named
  have hlocks := B.notSynchronized
  have hiRX3 : ∀ w ∈ u_ws RX3 TX3 12, w ∈ wsX3_isFloor := by decide +kernel
  subst hsz
  have hD := hD0.self (sz := s.heap.size)
  generalize hAe : va_A [(x, .inr (7, [.ref c1, .ref ps1, .ref lg, .int 9, .int 99, .int 0, .int 0, .int 0, .int ((-1)), .int 0, .int 0, .long 0]))] s.heap.size = A at hD hF ⊢
  have hA : ∀ q : Nat, s.heap.size ≤ q → A q := fun q h => by rw [← hAe]; exact Or.inr h
  have hS : va_S A s.heap s.heap [] := va_S.rf
  have hP : va_P D vwCl [(x, .inr (7, [.ref c1, .ref ps1, .ref lg, .int 9, .int 99, .int 0, .int 0, .int 0, .int ((-1)), .int 0, .int 0, .long 0]))] s.heap := hP
  have hl := lv_entry ([.ref x, .int p0]) (n := 2) (Nat.le_of_ble_eq_true rfl)
  rw [lg_entry_eq]
  generalize (lg_sl ([.ref x, .int p0]) ++ List.replicate (2 - (lg_sl ([.ref x, .int p0])).length) Slot.unset).toArray = ls at hl ⊢
  have hl : lv_has ls 2 [(0, .ref x), (1, .int p0)] := hl
  refine lv_iload_n hx hb dX3_isFloor_0 rfl (lv_at hl 1 rfl) ?_
  refine lv_if_lt (tgt := 16) hx hb dX3_isFloor_1 (by decide) (fun c_1 => ?_) (fun c_1 => ?_)
  · refine lv_iconst (v := 0) hx hb dX3_isFloor_16 (by decide) ?_
    refine W.widen (k := 0) (n := 0) (Nat.le_of_ble_eq_true rfl) (Nat.le_of_ble_eq_true rfl) ?_
    have hP9 := hP.sub (ws' := [(x, .inr (7, [.ref c1, .ref ps1, .ref lg, .int 9, .int 99, .int 0, .int 0, .int 0, .int ((-1)), .int 0, .int 0, .long 0]))]) [0] rfl
    have hD9 := hD.sub (ws' := [(x, .inr (7, [.ref c1, .ref ps1, .ref lg, .int 9, .int 99, .int 0, .int 0, .int 0, .int ((-1)), .int 0, .int 0, .long 0]))]) [0] (by decide) rfl
    have hK9 := hK.sub (tys' := []) [] rfl
    exact W.zret (v := 0) (ty := .boolean) hx hb hr (by decide) (fun t ht hW => ⟨⟨0, ([(x, .inr (7, [.ref c1, .ref ps1, .ref lg, .int 9, .int 99, .int 0, .int 0, .int 0, .int ((-1)), .int 0, .int 0, .long 0]))], []), rfl, (Or.inl ⟨(Or.inl c_1), rfl, rfl⟩), by rw [ht]; exact hP9, va_K.moved hW.alike hK9, hD9⟩, hS.F ht⟩) hS.2.2 dX3_isFloor_17
  · refine lv_iload_n hx hb dX3_isFloor_4 rfl (lv_at hl 1 rfl) ?_
    refine lv_aload_n hx hb dX3_isFloor_5 rfl (lv_at hl 0 rfl) ?_
    refine va_get (D := D) (ci := 7) (v := .int 9) (C := RX3) (T := TX3) (N := 12) hx hb hts hiRX3 hown hK hP 0 rfl rfl 3 (by decide) (hts (.fieldLink RX3 26 "Towerliftry" "top" "I") (by decide +kernel)) (fun _ h9 => h9) rfl dX3_isFloor_6 ?_
    refine lv_icmp_gt (tgt := 16) hx hb dX3_isFloor_9 (by decide) (fun c_2 => ?_) (fun c_2 => ?_)
    · refine lv_iconst (v := 0) hx hb dX3_isFloor_16 (by decide) ?_
      refine W.widen (k := 0) (n := 0) (Nat.le_of_ble_eq_true rfl) (Nat.le_of_ble_eq_true rfl) ?_
      have hP9 := hP.sub (ws' := [(x, .inr (7, [.ref c1, .ref ps1, .ref lg, .int 9, .int 99, .int 0, .int 0, .int 0, .int ((-1)), .int 0, .int 0, .long 0]))]) [0] rfl
      have hD9 := hD.sub (ws' := [(x, .inr (7, [.ref c1, .ref ps1, .ref lg, .int 9, .int 99, .int 0, .int 0, .int 0, .int ((-1)), .int 0, .int 0, .long 0]))]) [0] (by decide) rfl
      have hK9 := hK.sub (tys' := []) [] rfl
      exact W.zret (v := 0) (ty := .boolean) hx hb hr (by decide) (fun t ht hW => ⟨⟨0, ([(x, .inr (7, [.ref c1, .ref ps1, .ref lg, .int 9, .int 99, .int 0, .int 0, .int 0, .int ((-1)), .int 0, .int 0, .long 0]))], []), rfl, (Or.inl ⟨(Or.inr (⟨c_1, c_2⟩)), rfl, rfl⟩), by rw [ht]; exact hP9, va_K.moved hW.alike hK9, hD9⟩, hS.F ht⟩) hS.2.2 dX3_isFloor_17
    · refine lv_iconst (v := 1) hx hb dX3_isFloor_12 (by decide) ?_
      refine lv_goto (tgt := 17) hx hb dX3_isFloor_13 (by decide) ?_
      refine W.widen (k := 0) (n := 0) (Nat.le_of_ble_eq_true rfl) (Nat.le_of_ble_eq_true rfl) ?_
      have hP9 := hP.sub (ws' := [(x, .inr (7, [.ref c1, .ref ps1, .ref lg, .int 9, .int 99, .int 0, .int 0, .int 0, .int ((-1)), .int 0, .int 0, .long 0]))]) [0] rfl
      have hD9 := hD.sub (ws' := [(x, .inr (7, [.ref c1, .ref ps1, .ref lg, .int 9, .int 99, .int 0, .int 0, .int 0, .int ((-1)), .int 0, .int 0, .long 0]))]) [0] (by decide) rfl
      have hK9 := hK.sub (tys' := []) [] rfl
      exact W.zret (v := 1) (ty := .boolean) hx hb hr (by decide) (fun t ht hW => ⟨⟨1, ([(x, .inr (7, [.ref c1, .ref ps1, .ref lg, .int 9, .int 99, .int 0, .int 0, .int 0, .int ((-1)), .int 0, .int 0, .long 0]))], []), rfl, (Or.inr (⟨⟨c_1, c_2⟩, rfl, rfl⟩)), by rw [ht]; exact hP9, va_K.moved hW.alike hK9, hD9⟩, hS.F ht⟩) hS.2.2 dX3_isFloor_17
set_option maxHeartbeats 4000000 in
set_option maxRecDepth 100000 in
theorem c_X3_checkFloor (l : Launch) (hst : l.stackTraces = false) (em kw kb : Nat) (D : va_G) (x : Nat) (p0 : Int32) (c1 : Nat) (ps1 : Nat) (lg : Nat) (sz : Nat) : vx_Met l yX3_checkFloor wsX3_checkFloor ({ frames := 6, cells := 1, slots := 6, locals := 82 }) (va_Pc [.ref x, .int p0] (tw_Pre em kw kb D sz [(x, .inr (7, [.ref c1, .ref ps1, .ref lg, .int 9, .int 99, .int 0, .int 0, .int 0, .int ((-1)), .int 0, .int 0, .long 0]))] [])) (va_Qv (fun (u : tw_U) => ((¬ p0 < 0 ∧ ¬ 9 < p0)) ∧ u = ([(x, .inr (7, [.ref c1, .ref ps1, .ref lg, .int 9, .int 99, .int 0, .int 0, .int 0, .int ((-1)), .int 0, .int 0, .long 0]))], [])) (tw_B D (va_A [(x, .inr (7, [.ref c1, .ref ps1, .ref lg, .int 9, .int 99, .int 0, .int 0, .int 0, .int ((-1)), .int 0, .int 0, .long 0]))] sz)) (va_A [(x, .inr (7, [.ref c1, .ref ps1, .ref lg, .int 9, .int 99, .int 0, .int 0, .int 0, .int ((-1)), .int 0, .int 0, .long 0]))] sz)) (vx_X (fun (u : String × tw_U) => (((p0 < 0) ∨ (¬ p0 < 0 ∧ 9 < p0))) ∧ u = ("java/lang/IllegalArgumentException", (([(x, .inr (7, [.ref c1, .ref ps1, .ref lg, .int 9, .int 99, .int 0, .int 0, .int 0, .int ((-1)), .int 0, .int 0, .long 0]))], []) : tw_U))) (tw_BX D (va_A [(x, .inr (7, [.ref c1, .ref ps1, .ref lg, .int 9, .int 99, .int 0, .int 0, .int 0, .int ((-1)), .int 0, .int 0, .long 0]))] sz)) (va_A [(x, .inr (7, [.ref c1, .ref ps1, .ref lg, .int 9, .int 99, .int 0, .int 0, .int 0, .int ((-1)), .int 0, .int 0, .long 0]))] sz)) 1 6 (va_A [(x, .inr (7, [.ref c1, .ref ps1, .ref lg, .int 9, .int 99, .int 0, .int 0, .int 0, .int ((-1)), .int 0, .int 0, .long 0]))] sz) := by
  refine vx_ofW (cc := cX3_checkFloor) (maxL := 2) (ret := none) (by decide) rfl ?_
  intro p e s m args below meth c s₁ B hml htab hv
  obtain ⟨rfl, hsz, hP, hK, hD0, hF⟩ := hv
  have hx := B.exec
  have hb := B.bytes
  have hr := B.returns
  have hts := atoms_spec (ws := wsX3_checkFloor) B.pre
  have hown : s.vm.findClass RX3 = some m.cls := findClass_of_methodNamed B.named
  have hlocks := B.notSynchronized
  have hx41 : ∀ w ∈ (vx_atS RX3 41 "java/lang/IllegalArgumentException" ["java/lang/RuntimeException", "java/lang/Exception"]).filter goodWord, w ∈ wsX3_checkFloor := by decide +kernel
  subst hsz
  have hD := hD0.self (sz := s.heap.size)
  generalize hAe : va_A [(x, .inr (7, [.ref c1, .ref ps1, .ref lg, .int 9, .int 99, .int 0, .int 0, .int 0, .int ((-1)), .int 0, .int 0, .long 0]))] s.heap.size = A at hD hF ⊢
  have hA : ∀ q : Nat, s.heap.size ≤ q → A q := fun q h => by rw [← hAe]; exact Or.inr h
  have hS : va_S A s.heap s.heap [] := va_S.rf
  have hP : va_P D vwCl [(x, .inr (7, [.ref c1, .ref ps1, .ref lg, .int 9, .int 99, .int 0, .int 0, .int 0, .int ((-1)), .int 0, .int 0, .long 0]))] s.heap := hP
  have hl := lv_entry ([.ref x, .int p0]) (n := 2) (Nat.le_of_ble_eq_true rfl)
  rw [lg_entry_eq]
  generalize (lg_sl ([.ref x, .int p0]) ++ List.replicate (2 - (lg_sl ([.ref x, .int p0])).length) Slot.unset).toArray = ls at hl ⊢
  have hl : lv_has ls 2 [(0, .ref x), (1, .int p0)] := hl
  refine lv_aload_n hx hb dX3_checkFloor_0 rfl (lv_at hl 0 rfl) ?_
  refine lv_iload_n hx hb dX3_checkFloor_1 rfl (lv_at hl 1 rfl) ?_
  have hPc := hP.sub (ws' := [(x, .inr (7, [.ref c1, .ref ps1, .ref lg, .int 9, .int 99, .int 0, .int 0, .int 0, .int ((-1)), .int 0, .int 0, .long 0]))]) [0] rfl
  have hDc := hD.sub (ws' := [(x, .inr (7, [.ref c1, .ref ps1, .ref lg, .int 9, .int 99, .int 0, .int 0, .int 0, .int ((-1)), .int 0, .int 0, .long 0]))]) [0] (by decide) rfl
  have hKc := hK.sub (tys' := []) [] rfl
  have hFc := va_free (wc := [(x, .inr (7, [.ref c1, .ref ps1, .ref lg, .int 9, .int 99, .int 0, .int 0, .int 0, .int ((-1)), .int 0, .int 0, .long 0]))]) hD hS hA [0] rfl
  refine va_calli (va_runV (As := [.int p0]) (rest := []) ⟨hx, hb, hml, hown, hts⟩ (c_X3_isFloor l hst em kw kb D x p0 c1 ps1 lg _) (cwV 1 hts gX3_checkFloor_X3_isFloor rfl rfl rfl (by decide +kernel) ⟨(Nat.le_of_ble_eq_true rfl), (Nat.le_of_ble_eq_true rfl)⟩) (tw_preV hF hS hFc hPc hKc hDc (va_recv hKc hPc (ci := 7) (q0 := 0) rfl rfl)) rfl rfl hl.1 rfl (lv_room (Nat.le_of_ble_eq_true rfl)) dX3_checkFloor_2 ⟨(Nat.le_of_ble_eq_true rfl), (Nat.le_of_ble_eq_true rfl)⟩) hS (fun q _ h => hFc q h) hFc (fun r u t H locs ht hvm hw hB hz1 hk1 hS => ?_)
  rcases hw with hw | hw
  · obtain ⟨g_1, rfl, rfl⟩ := hw
    obtain ⟨hP, hD, hK⟩ := tw_join (wr := []) hP hD hK [0] [] rfl rfl (by decide) (by decide) hk1 hFc ht hvm hB
    have hP : va_P D vwCl [(x, .inr (7, [.ref c1, .ref ps1, .ref lg, .int 9, .int 99, .int 0, .int 0, .int 0, .int ((-1)), .int 0, .int 0, .long 0]))] _ := hP
    have hD : va_D A [(x, .inr (7, [.ref c1, .ref ps1, .ref lg, .int 9, .int 99, .int 0, .int 0, .int 0, .int ((-1)), .int 0, .int 0, .long 0]))] := hD
    have hK : va_K D vwCl [] s := hK
    refine W.widen (k := 0) (n := 0) (Nat.le_refl _) (Nat.le_refl _) ?_
    refine W.eq (g2 := F0 m 5 ls [.int 0]) rfl ?_
    refine lv_if_ne (tgt := 19) hx hb dX3_checkFloor_5 (by decide) (fun c9 => absurd c9 (by decide)) (fun c9 => ?_)
    obtain ⟨sa, hstr⟩ := tw_str hF (q := (265, "no such floor")) (by decide)
    have hP9 := hP.sub (ws' := [(x, .inr (7, [.ref c1, .ref ps1, .ref lg, .int 9, .int 99, .int 0, .int 0, .int 0, .int ((-1)), .int 0, .int 0, .long 0]))]) [0] rfl
    have hD9 := hD.sub (ws' := [(x, .inr (7, [.ref c1, .ref ps1, .ref lg, .int 9, .int 99, .int 0, .int 0, .int 0, .int ((-1)), .int 0, .int 0, .long 0]))]) [0] (by decide) rfl
    have hK9 := hK.sub (tys' := []) [] rfl
    exact vx_throwSW hx hb hst (own := RX3) (cls := "java/lang/IllegalArgumentException") (text := "no such floor") (names := ["java/lang/RuntimeException", "java/lang/Exception"]) (ik := 37) (is := 265) (ic := 41) hown (by decide +kernel) (by decide +kernel) (hts (.classLink RX3 37 "java/lang/IllegalArgumentException") (by decide +kernel)) (hts (.initialized "java/lang/IllegalArgumentException") (by decide +kernel)) hstr (tw_hat hF (fun w h => hts w (hx41 w h)) (by decide +kernel)) (by decide +kernel) hF.1 hF.2.1 hS (hl.1.trans hml.symm) dX3_checkFloor_8 dX3_checkFloor_11 dX3_checkFloor_12 dX3_checkFloor_15 dX3_checkFloor_18 (fun x9 h9 => (htab x9 h9).elim) (Nat.le_of_ble_eq_true rfl) (Nat.le_of_ble_eq_true rfl) (Nat.le_of_ble_eq_true rfl) (Nat.le_of_ble_eq_true rfl) hlocks (tw_exc hP9 hK9 hD9 hS _ ⟨g_1, rfl⟩) hS.2.2 (Nat.le_of_ble_eq_true rfl) (Nat.le_of_ble_eq_true rfl)
  · obtain ⟨g_2, rfl, rfl⟩ := hw
    obtain ⟨hP, hD, hK⟩ := tw_join (wr := []) hP hD hK [0] [] rfl rfl (by decide) (by decide) hk1 hFc ht hvm hB
    have hP : va_P D vwCl [(x, .inr (7, [.ref c1, .ref ps1, .ref lg, .int 9, .int 99, .int 0, .int 0, .int 0, .int ((-1)), .int 0, .int 0, .long 0]))] _ := hP
    have hD : va_D A [(x, .inr (7, [.ref c1, .ref ps1, .ref lg, .int 9, .int 99, .int 0, .int 0, .int 0, .int ((-1)), .int 0, .int 0, .long 0]))] := hD
    have hK : va_K D vwCl [] s := hK
    refine W.widen (k := 0) (n := 0) (Nat.le_refl _) (Nat.le_refl _) ?_
    refine W.eq (g2 := F0 m 5 ls [.int 1]) rfl ?_
    refine lv_if_ne (tgt := 19) hx hb dX3_checkFloor_5 (by decide) (fun c9 => ?_) (fun c9 => absurd c9 (by decide))
    refine W.widen (k := 1) (n := 6) (Nat.le_of_ble_eq_true rfl) (Nat.le_of_ble_eq_true rfl) ?_
    have hP9 := hP.sub (ws' := [(x, .inr (7, [.ref c1, .ref ps1, .ref lg, .int 9, .int 99, .int 0, .int 0, .int 0, .int ((-1)), .int 0, .int 0, .long 0]))]) [0] rfl
    have hD9 := hD.sub (ws' := [(x, .inr (7, [.ref c1, .ref ps1, .ref lg, .int 9, .int 99, .int 0, .int 0, .int 0, .int ((-1)), .int 0, .int 0, .long 0]))]) [0] (by decide) rfl
    have hK9 := hK.sub (tys' := []) [] rfl
    refine vx_ret ?_
    exact W.vret hx hb hr (fun t ht hW => ⟨⟨([(x, .inr (7, [.ref c1, .ref ps1, .ref lg, .int 9, .int 99, .int 0, .int 0, .int 0, .int ((-1)), .int 0, .int 0, .long 0]))], []), rfl, ⟨g_2, rfl⟩, by rw [ht]; exact hP9, va_K.moved hW.alike hK9, hD9⟩, hS.F ht⟩) hS.2.2 dX3_checkFloor_19
set_option maxHeartbeats 4000000 in
set_option maxRecDepth 100000 in
theorem c_X3_carOf (l : Launch) (hst : l.stackTraces = false) (em kw kb : Nat) (D : va_G) (x : Nat) (p0 : Int32) (c1 : Nat) (ps1 : Nat) (lg : Nat) (sz : Nat) : vx_Met l yX3_carOf wsX3_carOf ({ frames := 6, cells := 1, slots := 6, locals := 82 }) (va_Pc [.ref x, .int p0] (tw_Pre em kw kb D sz [(x, .inr (7, [.ref c1, .ref ps1, .ref lg, .int 9, .int 99, .int 0, .int 0, .int 0, .int ((-1)), .int 0, .int 0, .long 0])), (c1, .inr (3, [.int 0, .ref em, .int 0]))] [])) (va_Qq (fun (r : Option Nat) (u : tw_U) => False) (tw_B D (va_A [(x, .inr (7, [.ref c1, .ref ps1, .ref lg, .int 9, .int 99, .int 0, .int 0, .int 0, .int ((-1)), .int 0, .int 0, .long 0])), (c1, .inr (3, [.int 0, .ref em, .int 0]))] sz)) (va_A [(x, .inr (7, [.ref c1, .ref ps1, .ref lg, .int 9, .int 99, .int 0, .int 0, .int 0, .int ((-1)), .int 0, .int 0, .long 0])), (c1, .inr (3, [.int 0, .ref em, .int 0]))] sz)) (vx_X (fun (u : String × tw_U) => u = ("java/lang/IndexOutOfBoundsException", (([(x, .inr (7, [.ref c1, .ref ps1, .ref lg, .int 9, .int 99, .int 0, .int 0, .int 0, .int ((-1)), .int 0, .int 0, .long 0])), (c1, .inr (3, [.int 0, .ref em, .int 0]))], []) : tw_U))) (tw_BX D (va_A [(x, .inr (7, [.ref c1, .ref ps1, .ref lg, .int 9, .int 99, .int 0, .int 0, .int 0, .int ((-1)), .int 0, .int 0, .long 0])), (c1, .inr (3, [.int 0, .ref em, .int 0]))] sz)) (va_A [(x, .inr (7, [.ref c1, .ref ps1, .ref lg, .int 9, .int 99, .int 0, .int 0, .int 0, .int ((-1)), .int 0, .int 0, .long 0])), (c1, .inr (3, [.int 0, .ref em, .int 0]))] sz)) 1 6 (va_A [(x, .inr (7, [.ref c1, .ref ps1, .ref lg, .int 9, .int 99, .int 0, .int 0, .int 0, .int ((-1)), .int 0, .int 0, .long 0])), (c1, .inr (3, [.int 0, .ref em, .int 0]))] sz) := by
  refine vx_ofW (cc := cX3_carOf) (maxL := 2) (ret := (some (.object "Towerliftry$Car"))) (by decide) rfl ?_
  intro p e s m args below meth c s₁ B hml htab hv
  obtain ⟨rfl, hsz, hP, hK, hD0, hF⟩ := hv
  have hx := B.exec
  have hb := B.bytes
  have hr := B.returns
  have hts := atoms_spec (ws := wsX3_carOf) B.pre
  have hown : s.vm.findClass RX3 = some m.cls := findClass_of_methodNamed B.named
  have hlocks := B.notSynchronized
  have hiRX3 : ∀ w ∈ u_ws RX3 TX3 12, w ∈ wsX3_carOf := by decide +kernel
  have hx271 : ∀ w ∈ (vx_atS RX3 271 "java/lang/IndexOutOfBoundsException" ["java/lang/RuntimeException", "java/lang/Exception"]).filter goodWord, w ∈ wsX3_carOf := by decide +kernel
  subst hsz
  have hD := hD0.self (sz := s.heap.size)
  generalize hAe : va_A [(x, .inr (7, [.ref c1, .ref ps1, .ref lg, .int 9, .int 99, .int 0, .int 0, .int 0, .int ((-1)), .int 0, .int 0, .long 0])), (c1, .inr (3, [.int 0, .ref em, .int 0]))] s.heap.size = A at hD hF ⊢
  have hA : ∀ q : Nat, s.heap.size ≤ q → A q := fun q h => by rw [← hAe]; exact Or.inr h
  have hS : va_S A s.heap s.heap [] := va_S.rf
  have hP : va_P D vwCl [(x, .inr (7, [.ref c1, .ref ps1, .ref lg, .int 9, .int 99, .int 0, .int 0, .int 0, .int ((-1)), .int 0, .int 0, .long 0])), (c1, .inr (3, [.int 0, .ref em, .int 0]))] s.heap := hP
  have hl := lv_entry ([.ref x, .int p0]) (n := 2) (Nat.le_of_ble_eq_true rfl)
  rw [lg_entry_eq]
  generalize (lg_sl ([.ref x, .int p0]) ++ List.replicate (2 - (lg_sl ([.ref x, .int p0])).length) Slot.unset).toArray = ls at hl ⊢
  have hl : lv_has ls 2 [(0, .ref x), (1, .int p0)] := hl
  refine lv_iload_n hx hb dX3_carOf_0 rfl (lv_at hl 1 rfl) ?_
  refine lv_if_lt (tgt := 15) hx hb dX3_carOf_1 (by decide) (fun c_1 => ?_) (fun c_1 => ?_)
  · obtain ⟨sa, hstr⟩ := tw_str hF (q := (272, "no such car")) (by decide)
    have hP9 := hP.sub (ws' := [(x, .inr (7, [.ref c1, .ref ps1, .ref lg, .int 9, .int 99, .int 0, .int 0, .int 0, .int ((-1)), .int 0, .int 0, .long 0])), (c1, .inr (3, [.int 0, .ref em, .int 0]))]) [0, 1] rfl
    have hD9 := hD.sub (ws' := [(x, .inr (7, [.ref c1, .ref ps1, .ref lg, .int 9, .int 99, .int 0, .int 0, .int 0, .int ((-1)), .int 0, .int 0, .long 0])), (c1, .inr (3, [.int 0, .ref em, .int 0]))]) [0, 1] (by decide) rfl
    have hK9 := hK.sub (tys' := []) [] rfl
    exact vx_throwSW hx hb hst (own := RX3) (cls := "java/lang/IndexOutOfBoundsException") (text := "no such car") (names := ["java/lang/RuntimeException", "java/lang/Exception"]) (ik := 267) (is := 272) (ic := 271) hown (by decide +kernel) (by decide +kernel) (hts (.classLink RX3 267 "java/lang/IndexOutOfBoundsException") (by decide +kernel)) (hts (.initialized "java/lang/IndexOutOfBoundsException") (by decide +kernel)) hstr (tw_hat hF (fun w h => hts w (hx271 w h)) (by decide +kernel)) (by decide +kernel) hF.1 hF.2.1 hS (hl.1.trans hml.symm) dX3_carOf_15 dX3_carOf_18 dX3_carOf_19 dX3_carOf_22 dX3_carOf_25 (fun x9 h9 => (htab x9 h9).elim) (Nat.le_of_ble_eq_true rfl) (Nat.le_of_ble_eq_true rfl) (Nat.le_of_ble_eq_true rfl) (Nat.le_of_ble_eq_true rfl) hlocks (tw_exc hP9 hK9 hD9 hS _ rfl) hS.2.2 (Nat.le_of_ble_eq_true rfl) (Nat.le_of_ble_eq_true rfl)
  · refine lv_iload_n hx hb dX3_carOf_4 rfl (lv_at hl 1 rfl) ?_
    refine lv_aload_n hx hb dX3_carOf_5 rfl (lv_at hl 0 rfl) ?_
    refine va_get (D := D) (ci := 7) (v := .ref c1) (C := RX3) (T := TX3) (N := 12) hx hb hts hiRX3 hown hK hP 0 rfl rfl 0 (by decide) (hts (.fieldLink RX3 10 "Towerliftry" "cars" "Ljava/util/ArrayList;") (by decide +kernel)) (fun _ h9 => h9) rfl dX3_carOf_6 ?_
    have hPc := hP.sub (ws' := [(c1, .inr (3, [.int 0, .ref em, .int 0]))]) [1] rfl
    have hDc := hD.sub (ws' := [(c1, .inr (3, [.int 0, .ref em, .int 0]))]) [1] (by decide) rfl
    have hKc := hK.sub (tys' := []) [] rfl
    have hFc := va_free (wc := [(c1, .inr (3, [.int 0, .ref em, .int 0]))]) hD hS hA [1] rfl
    refine va_calli (va_runV (As := []) (rest := [.int p0]) ⟨hx, hb, hml, hown, hts⟩ (c_size0 l hst em kw kb D c1 em _) (cwV 0 hts gX3_carOf_Jx4a65c_size_8abf5 rfl rfl rfl (by decide +kernel) ⟨(Nat.le_of_ble_eq_true rfl), (Nat.le_of_ble_eq_true rfl)⟩) (tw_preV hF hS hFc hPc hKc hDc (va_recv hKc hPc (ci := 3) (q0 := 0) rfl rfl)) rfl rfl hl.1 rfl (lv_room (Nat.le_of_ble_eq_true rfl)) dX3_carOf_9 ⟨(Nat.le_of_ble_eq_true rfl), (Nat.le_of_ble_eq_true rfl)⟩) hS (fun q _ h => hFc q h) hFc (fun r u t H locs ht hvm hw hB hz1 hk1 hS => ?_)
    obtain ⟨rfl, rfl⟩ := hw
    obtain ⟨hP, hD, hK⟩ := tw_join (wr := [(x, .inr (7, [.ref c1, .ref ps1, .ref lg, .int 9, .int 99, .int 0, .int 0, .int 0, .int ((-1)), .int 0, .int 0, .long 0]))]) hP hD hK [1] [0] rfl rfl (by decide) (by decide) hk1 hFc ht hvm hB
    have hP : va_P D vwCl [(x, .inr (7, [.ref c1, .ref ps1, .ref lg, .int 9, .int 99, .int 0, .int 0, .int 0, .int ((-1)), .int 0, .int 0, .long 0])), (c1, .inr (3, [.int 0, .ref em, .int 0]))] _ := hP
    have hD : va_D A [(x, .inr (7, [.ref c1, .ref ps1, .ref lg, .int 9, .int 99, .int 0, .int 0, .int 0, .int ((-1)), .int 0, .int 0, .long 0])), (c1, .inr (3, [.int 0, .ref em, .int 0]))] := hD
    have hK : va_K D vwCl [] s := hK
    refine W.widen (k := 0) (n := 0) (Nat.le_refl _) (Nat.le_refl _) ?_
    refine W.eq (g2 := F0 m 12 ls [.int 0, .int p0]) rfl ?_
    refine lv_icmp_lt (tgt := 26) hx hb dX3_carOf_12 (by decide) (fun c_2 => absurd c_2 (by first | exact c_1 | exact not_not_intro c_1)) (fun c_2 => ?_)
    obtain ⟨sa, hstr⟩ := tw_str hF (q := (272, "no such car")) (by decide)
    have hP9 := hP.sub (ws' := [(x, .inr (7, [.ref c1, .ref ps1, .ref lg, .int 9, .int 99, .int 0, .int 0, .int 0, .int ((-1)), .int 0, .int 0, .long 0])), (c1, .inr (3, [.int 0, .ref em, .int 0]))]) [0, 1] rfl
    have hD9 := hD.sub (ws' := [(x, .inr (7, [.ref c1, .ref ps1, .ref lg, .int 9, .int 99, .int 0, .int 0, .int 0, .int ((-1)), .int 0, .int 0, .long 0])), (c1, .inr (3, [.int 0, .ref em, .int 0]))]) [0, 1] (by decide) rfl
    have hK9 := hK.sub (tys' := []) [] rfl
    exact vx_throwSW hx hb hst (own := RX3) (cls := "java/lang/IndexOutOfBoundsException") (text := "no such car") (names := ["java/lang/RuntimeException", "java/lang/Exception"]) (ik := 267) (is := 272) (ic := 271) hown (by decide +kernel) (by decide +kernel) (hts (.classLink RX3 267 "java/lang/IndexOutOfBoundsException") (by decide +kernel)) (hts (.initialized "java/lang/IndexOutOfBoundsException") (by decide +kernel)) hstr (tw_hat hF (fun w h => hts w (hx271 w h)) (by decide +kernel)) (by decide +kernel) hF.1 hF.2.1 hS (hl.1.trans hml.symm) dX3_carOf_15 dX3_carOf_18 dX3_carOf_19 dX3_carOf_22 dX3_carOf_25 (fun x9 h9 => (htab x9 h9).elim) (Nat.le_of_ble_eq_true rfl) (Nat.le_of_ble_eq_true rfl) (Nat.le_of_ble_eq_true rfl) (Nat.le_of_ble_eq_true rfl) hlocks (tw_exc hP9 hK9 hD9 hS _ rfl) hS.2.2 (Nat.le_of_ble_eq_true rfl) (Nat.le_of_ble_eq_true rfl)
set_option maxHeartbeats 4000000 in
set_option maxRecDepth 100000 in
theorem c_X3_personOf (l : Launch) (hst : l.stackTraces = false) (em kw kb : Nat) (D : va_G) (x : Nat) (p0 : Int32) (c1 : Nat) (ps1 : Nat) (lg : Nat) (sz : Nat) : vx_Met l yX3_personOf wsX3_personOf ({ frames := 6, cells := 1, slots := 6, locals := 82 }) (va_Pc [.ref x, .int p0] (tw_Pre em kw kb D sz [(x, .inr (7, [.ref c1, .ref ps1, .ref lg, .int 9, .int 99, .int 0, .int 0, .int 0, .int ((-1)), .int 0, .int 0, .long 0])), (ps1, .inr (3, [.int 0, .ref em, .int 0]))] [])) (va_Qq (fun (r : Option Nat) (u : tw_U) => False) (tw_B D (va_A [(x, .inr (7, [.ref c1, .ref ps1, .ref lg, .int 9, .int 99, .int 0, .int 0, .int 0, .int ((-1)), .int 0, .int 0, .long 0])), (ps1, .inr (3, [.int 0, .ref em, .int 0]))] sz)) (va_A [(x, .inr (7, [.ref c1, .ref ps1, .ref lg, .int 9, .int 99, .int 0, .int 0, .int 0, .int ((-1)), .int 0, .int 0, .long 0])), (ps1, .inr (3, [.int 0, .ref em, .int 0]))] sz)) (vx_X (fun (u : String × tw_U) => u = ("java/lang/IndexOutOfBoundsException", (([(x, .inr (7, [.ref c1, .ref ps1, .ref lg, .int 9, .int 99, .int 0, .int 0, .int 0, .int ((-1)), .int 0, .int 0, .long 0])), (ps1, .inr (3, [.int 0, .ref em, .int 0]))], []) : tw_U))) (tw_BX D (va_A [(x, .inr (7, [.ref c1, .ref ps1, .ref lg, .int 9, .int 99, .int 0, .int 0, .int 0, .int ((-1)), .int 0, .int 0, .long 0])), (ps1, .inr (3, [.int 0, .ref em, .int 0]))] sz)) (va_A [(x, .inr (7, [.ref c1, .ref ps1, .ref lg, .int 9, .int 99, .int 0, .int 0, .int 0, .int ((-1)), .int 0, .int 0, .long 0])), (ps1, .inr (3, [.int 0, .ref em, .int 0]))] sz)) 1 6 (va_A [(x, .inr (7, [.ref c1, .ref ps1, .ref lg, .int 9, .int 99, .int 0, .int 0, .int 0, .int ((-1)), .int 0, .int 0, .long 0])), (ps1, .inr (3, [.int 0, .ref em, .int 0]))] sz) := by
  refine vx_ofW (cc := cX3_personOf) (maxL := 2) (ret := (some (.object "Towerliftry$Person"))) (by decide) rfl ?_
  intro p e s m args below meth c s₁ B hml htab hv
  obtain ⟨rfl, hsz, hP, hK, hD0, hF⟩ := hv
  have hx := B.exec
  have hb := B.bytes
  have hr := B.returns
  have hts := atoms_spec (ws := wsX3_personOf) B.pre
  have hown : s.vm.findClass RX3 = some m.cls := findClass_of_methodNamed B.named
  have hlocks := B.notSynchronized
  have hiRX3 : ∀ w ∈ u_ws RX3 TX3 12, w ∈ wsX3_personOf := by decide +kernel
  have hx271 : ∀ w ∈ (vx_atS RX3 271 "java/lang/IndexOutOfBoundsException" ["java/lang/RuntimeException", "java/lang/Exception"]).filter goodWord, w ∈ wsX3_personOf := by decide +kernel
  subst hsz
  have hD := hD0.self (sz := s.heap.size)
  generalize hAe : va_A [(x, .inr (7, [.ref c1, .ref ps1, .ref lg, .int 9, .int 99, .int 0, .int 0, .int 0, .int ((-1)), .int 0, .int 0, .long 0])), (ps1, .inr (3, [.int 0, .ref em, .int 0]))] s.heap.size = A at hD hF ⊢
  have hA : ∀ q : Nat, s.heap.size ≤ q → A q := fun q h => by rw [← hAe]; exact Or.inr h
  have hS : va_S A s.heap s.heap [] := va_S.rf
  have hP : va_P D vwCl [(x, .inr (7, [.ref c1, .ref ps1, .ref lg, .int 9, .int 99, .int 0, .int 0, .int 0, .int ((-1)), .int 0, .int 0, .long 0])), (ps1, .inr (3, [.int 0, .ref em, .int 0]))] s.heap := hP
  have hl := lv_entry ([.ref x, .int p0]) (n := 2) (Nat.le_of_ble_eq_true rfl)
  rw [lg_entry_eq]
  generalize (lg_sl ([.ref x, .int p0]) ++ List.replicate (2 - (lg_sl ([.ref x, .int p0])).length) Slot.unset).toArray = ls at hl ⊢
  have hl : lv_has ls 2 [(0, .ref x), (1, .int p0)] := hl
  refine lv_iload_n hx hb dX3_personOf_0 rfl (lv_at hl 1 rfl) ?_
  refine lv_if_lt (tgt := 15) hx hb dX3_personOf_1 (by decide) (fun c_1 => ?_) (fun c_1 => ?_)
  · obtain ⟨sa, hstr⟩ := tw_str hF (q := (274, "no such person")) (by decide)
    have hP9 := hP.sub (ws' := [(x, .inr (7, [.ref c1, .ref ps1, .ref lg, .int 9, .int 99, .int 0, .int 0, .int 0, .int ((-1)), .int 0, .int 0, .long 0])), (ps1, .inr (3, [.int 0, .ref em, .int 0]))]) [0, 1] rfl
    have hD9 := hD.sub (ws' := [(x, .inr (7, [.ref c1, .ref ps1, .ref lg, .int 9, .int 99, .int 0, .int 0, .int 0, .int ((-1)), .int 0, .int 0, .long 0])), (ps1, .inr (3, [.int 0, .ref em, .int 0]))]) [0, 1] (by decide) rfl
    have hK9 := hK.sub (tys' := []) [] rfl
    exact vx_throwSW hx hb hst (own := RX3) (cls := "java/lang/IndexOutOfBoundsException") (text := "no such person") (names := ["java/lang/RuntimeException", "java/lang/Exception"]) (ik := 267) (is := 274) (ic := 271) hown (by decide +kernel) (by decide +kernel) (hts (.classLink RX3 267 "java/lang/IndexOutOfBoundsException") (by decide +kernel)) (hts (.initialized "java/lang/IndexOutOfBoundsException") (by decide +kernel)) hstr (tw_hat hF (fun w h => hts w (hx271 w h)) (by decide +kernel)) (by decide +kernel) hF.1 hF.2.1 hS (hl.1.trans hml.symm) dX3_personOf_15 dX3_personOf_18 dX3_personOf_19 dX3_personOf_22 dX3_personOf_25 (fun x9 h9 => (htab x9 h9).elim) (Nat.le_of_ble_eq_true rfl) (Nat.le_of_ble_eq_true rfl) (Nat.le_of_ble_eq_true rfl) (Nat.le_of_ble_eq_true rfl) hlocks (tw_exc hP9 hK9 hD9 hS _ rfl) hS.2.2 (Nat.le_of_ble_eq_true rfl) (Nat.le_of_ble_eq_true rfl)
  · refine lv_iload_n hx hb dX3_personOf_4 rfl (lv_at hl 1 rfl) ?_
    refine lv_aload_n hx hb dX3_personOf_5 rfl (lv_at hl 0 rfl) ?_
    refine va_get (D := D) (ci := 7) (v := .ref ps1) (C := RX3) (T := TX3) (N := 12) hx hb hts hiRX3 hown hK hP 0 rfl rfl 1 (by decide) (hts (.fieldLink RX3 16 "Towerliftry" "persons" "Ljava/util/ArrayList;") (by decide +kernel)) (fun _ h9 => h9) rfl dX3_personOf_6 ?_
    have hPc := hP.sub (ws' := [(ps1, .inr (3, [.int 0, .ref em, .int 0]))]) [1] rfl
    have hDc := hD.sub (ws' := [(ps1, .inr (3, [.int 0, .ref em, .int 0]))]) [1] (by decide) rfl
    have hKc := hK.sub (tys' := []) [] rfl
    have hFc := va_free (wc := [(ps1, .inr (3, [.int 0, .ref em, .int 0]))]) hD hS hA [1] rfl
    refine va_calli (va_runV (As := []) (rest := [.int p0]) ⟨hx, hb, hml, hown, hts⟩ (c_size0 l hst em kw kb D ps1 em _) (cwV 0 hts gX3_personOf_Jx4a65c_size_8abf5 rfl rfl rfl (by decide +kernel) ⟨(Nat.le_of_ble_eq_true rfl), (Nat.le_of_ble_eq_true rfl)⟩) (tw_preV hF hS hFc hPc hKc hDc (va_recv hKc hPc (ci := 3) (q0 := 0) rfl rfl)) rfl rfl hl.1 rfl (lv_room (Nat.le_of_ble_eq_true rfl)) dX3_personOf_9 ⟨(Nat.le_of_ble_eq_true rfl), (Nat.le_of_ble_eq_true rfl)⟩) hS (fun q _ h => hFc q h) hFc (fun r u t H locs ht hvm hw hB hz1 hk1 hS => ?_)
    obtain ⟨rfl, rfl⟩ := hw
    obtain ⟨hP, hD, hK⟩ := tw_join (wr := [(x, .inr (7, [.ref c1, .ref ps1, .ref lg, .int 9, .int 99, .int 0, .int 0, .int 0, .int ((-1)), .int 0, .int 0, .long 0]))]) hP hD hK [1] [0] rfl rfl (by decide) (by decide) hk1 hFc ht hvm hB
    have hP : va_P D vwCl [(x, .inr (7, [.ref c1, .ref ps1, .ref lg, .int 9, .int 99, .int 0, .int 0, .int 0, .int ((-1)), .int 0, .int 0, .long 0])), (ps1, .inr (3, [.int 0, .ref em, .int 0]))] _ := hP
    have hD : va_D A [(x, .inr (7, [.ref c1, .ref ps1, .ref lg, .int 9, .int 99, .int 0, .int 0, .int 0, .int ((-1)), .int 0, .int 0, .long 0])), (ps1, .inr (3, [.int 0, .ref em, .int 0]))] := hD
    have hK : va_K D vwCl [] s := hK
    refine W.widen (k := 0) (n := 0) (Nat.le_refl _) (Nat.le_refl _) ?_
    refine W.eq (g2 := F0 m 12 ls [.int 0, .int p0]) rfl ?_
    refine lv_icmp_lt (tgt := 26) hx hb dX3_personOf_12 (by decide) (fun c_2 => absurd c_2 (by first | exact c_1 | exact not_not_intro c_1)) (fun c_2 => ?_)
    obtain ⟨sa, hstr⟩ := tw_str hF (q := (274, "no such person")) (by decide)
    have hP9 := hP.sub (ws' := [(x, .inr (7, [.ref c1, .ref ps1, .ref lg, .int 9, .int 99, .int 0, .int 0, .int 0, .int ((-1)), .int 0, .int 0, .long 0])), (ps1, .inr (3, [.int 0, .ref em, .int 0]))]) [0, 1] rfl
    have hD9 := hD.sub (ws' := [(x, .inr (7, [.ref c1, .ref ps1, .ref lg, .int 9, .int 99, .int 0, .int 0, .int 0, .int ((-1)), .int 0, .int 0, .long 0])), (ps1, .inr (3, [.int 0, .ref em, .int 0]))]) [0, 1] (by decide) rfl
    have hK9 := hK.sub (tys' := []) [] rfl
    exact vx_throwSW hx hb hst (own := RX3) (cls := "java/lang/IndexOutOfBoundsException") (text := "no such person") (names := ["java/lang/RuntimeException", "java/lang/Exception"]) (ik := 267) (is := 274) (ic := 271) hown (by decide +kernel) (by decide +kernel) (hts (.classLink RX3 267 "java/lang/IndexOutOfBoundsException") (by decide +kernel)) (hts (.initialized "java/lang/IndexOutOfBoundsException") (by decide +kernel)) hstr (tw_hat hF (fun w h => hts w (hx271 w h)) (by decide +kernel)) (by decide +kernel) hF.1 hF.2.1 hS (hl.1.trans hml.symm) dX3_personOf_15 dX3_personOf_18 dX3_personOf_19 dX3_personOf_22 dX3_personOf_25 (fun x9 h9 => (htab x9 h9).elim) (Nat.le_of_ble_eq_true rfl) (Nat.le_of_ble_eq_true rfl) (Nat.le_of_ble_eq_true rfl) (Nat.le_of_ble_eq_true rfl) hlocks (tw_exc hP9 hK9 hD9 hS _ rfl) hS.2.2 (Nat.le_of_ble_eq_true rfl) (Nat.le_of_ble_eq_true rfl)
set_option maxHeartbeats 4000000 in
set_option maxRecDepth 100000 in
theorem c_X3_checkEntry (l : Launch) (hst : l.stackTraces = false) (em kw kb : Nat) (D : va_G) (x : Nat) (p0 : Int32) (c1 : Nat) (ps1 : Nat) (lg : Nat) (en : Nat) (sz : Nat) : vx_Met l yX3_checkEntry wsX3_checkEntry ({ frames := 6, cells := 1, slots := 6, locals := 82 }) (va_Pc [.ref x, .int p0] (tw_Pre em kw kb D sz [(x, .inr (7, [.ref c1, .ref ps1, .ref lg, .int 9, .int 99, .int 0, .int 0, .int 0, .int ((-1)), .int 0, .int 0, .long 0])), (lg, .inr (5, [.ref en, .int 0]))] [])) (va_Qv (fun (u : tw_U) => False) (tw_B D (va_A [(x, .inr (7, [.ref c1, .ref ps1, .ref lg, .int 9, .int 99, .int 0, .int 0, .int 0, .int ((-1)), .int 0, .int 0, .long 0])), (lg, .inr (5, [.ref en, .int 0]))] sz)) (va_A [(x, .inr (7, [.ref c1, .ref ps1, .ref lg, .int 9, .int 99, .int 0, .int 0, .int 0, .int ((-1)), .int 0, .int 0, .long 0])), (lg, .inr (5, [.ref en, .int 0]))] sz)) (vx_X (fun (u : String × tw_U) => u = ("java/lang/IndexOutOfBoundsException", (([(x, .inr (7, [.ref c1, .ref ps1, .ref lg, .int 9, .int 99, .int 0, .int 0, .int 0, .int ((-1)), .int 0, .int 0, .long 0])), (lg, .inr (5, [.ref en, .int 0]))], []) : tw_U))) (tw_BX D (va_A [(x, .inr (7, [.ref c1, .ref ps1, .ref lg, .int 9, .int 99, .int 0, .int 0, .int 0, .int ((-1)), .int 0, .int 0, .long 0])), (lg, .inr (5, [.ref en, .int 0]))] sz)) (va_A [(x, .inr (7, [.ref c1, .ref ps1, .ref lg, .int 9, .int 99, .int 0, .int 0, .int 0, .int ((-1)), .int 0, .int 0, .long 0])), (lg, .inr (5, [.ref en, .int 0]))] sz)) 1 6 (va_A [(x, .inr (7, [.ref c1, .ref ps1, .ref lg, .int 9, .int 99, .int 0, .int 0, .int 0, .int ((-1)), .int 0, .int 0, .long 0])), (lg, .inr (5, [.ref en, .int 0]))] sz) := by
  refine vx_ofW (cc := cX3_checkEntry) (maxL := 2) (ret := none) (by decide) rfl ?_
  intro p e s m args below meth c s₁ B hml htab hv
  obtain ⟨rfl, hsz, hP, hK, hD0, hF⟩ := hv
  have hx := B.exec
  have hb := B.bytes
  have hr := B.returns
  have hts := atoms_spec (ws := wsX3_checkEntry) B.pre
  have hown : s.vm.findClass RX3 = some m.cls := findClass_of_methodNamed B.named
  have hlocks := B.notSynchronized
  have hiRX3 : ∀ w ∈ u_ws RX3 TX3 12, w ∈ wsX3_checkEntry := by decide +kernel
  have hiRX1 : ∀ w ∈ u_ws RX1 TX1 2, w ∈ wsX3_checkEntry := by decide +kernel
  have hx271 : ∀ w ∈ (vx_atS RX3 271 "java/lang/IndexOutOfBoundsException" ["java/lang/RuntimeException", "java/lang/Exception"]).filter goodWord, w ∈ wsX3_checkEntry := by decide +kernel
  subst hsz
  have hD := hD0.self (sz := s.heap.size)
  generalize hAe : va_A [(x, .inr (7, [.ref c1, .ref ps1, .ref lg, .int 9, .int 99, .int 0, .int 0, .int 0, .int ((-1)), .int 0, .int 0, .long 0])), (lg, .inr (5, [.ref en, .int 0]))] s.heap.size = A at hD hF ⊢
  have hA : ∀ q : Nat, s.heap.size ≤ q → A q := fun q h => by rw [← hAe]; exact Or.inr h
  have hS : va_S A s.heap s.heap [] := va_S.rf
  have hP : va_P D vwCl [(x, .inr (7, [.ref c1, .ref ps1, .ref lg, .int 9, .int 99, .int 0, .int 0, .int 0, .int ((-1)), .int 0, .int 0, .long 0])), (lg, .inr (5, [.ref en, .int 0]))] s.heap := hP
  have hl := lv_entry ([.ref x, .int p0]) (n := 2) (Nat.le_of_ble_eq_true rfl)
  rw [lg_entry_eq]
  generalize (lg_sl ([.ref x, .int p0]) ++ List.replicate (2 - (lg_sl ([.ref x, .int p0])).length) Slot.unset).toArray = ls at hl ⊢
  have hl : lv_has ls 2 [(0, .ref x), (1, .int p0)] := hl
  refine lv_iload_n hx hb dX3_checkEntry_0 rfl (lv_at hl 1 rfl) ?_
  refine lv_if_lt (tgt := 15) hx hb dX3_checkEntry_1 (by decide) (fun c_1 => ?_) (fun c_1 => ?_)
  · obtain ⟨sa, hstr⟩ := tw_str hF (q := (269, "no such entry")) (by decide)
    have hP9 := hP.sub (ws' := [(x, .inr (7, [.ref c1, .ref ps1, .ref lg, .int 9, .int 99, .int 0, .int 0, .int 0, .int ((-1)), .int 0, .int 0, .long 0])), (lg, .inr (5, [.ref en, .int 0]))]) [0, 1] rfl
    have hD9 := hD.sub (ws' := [(x, .inr (7, [.ref c1, .ref ps1, .ref lg, .int 9, .int 99, .int 0, .int 0, .int 0, .int ((-1)), .int 0, .int 0, .long 0])), (lg, .inr (5, [.ref en, .int 0]))]) [0, 1] (by decide) rfl
    have hK9 := hK.sub (tys' := []) [] rfl
    exact vx_throwSW hx hb hst (own := RX3) (cls := "java/lang/IndexOutOfBoundsException") (text := "no such entry") (names := ["java/lang/RuntimeException", "java/lang/Exception"]) (ik := 267) (is := 269) (ic := 271) hown (by decide +kernel) (by decide +kernel) (hts (.classLink RX3 267 "java/lang/IndexOutOfBoundsException") (by decide +kernel)) (hts (.initialized "java/lang/IndexOutOfBoundsException") (by decide +kernel)) hstr (tw_hat hF (fun w h => hts w (hx271 w h)) (by decide +kernel)) (by decide +kernel) hF.1 hF.2.1 hS (hl.1.trans hml.symm) dX3_checkEntry_15 dX3_checkEntry_18 dX3_checkEntry_19 dX3_checkEntry_22 dX3_checkEntry_25 (fun x9 h9 => (htab x9 h9).elim) (Nat.le_of_ble_eq_true rfl) (Nat.le_of_ble_eq_true rfl) (Nat.le_of_ble_eq_true rfl) (Nat.le_of_ble_eq_true rfl) hlocks (tw_exc hP9 hK9 hD9 hS _ rfl) hS.2.2 (Nat.le_of_ble_eq_true rfl) (Nat.le_of_ble_eq_true rfl)
  · refine lv_iload_n hx hb dX3_checkEntry_4 rfl (lv_at hl 1 rfl) ?_
    refine lv_aload_n hx hb dX3_checkEntry_5 rfl (lv_at hl 0 rfl) ?_
    refine va_get (D := D) (ci := 7) (v := .ref lg) (C := RX3) (T := TX3) (N := 12) hx hb hts hiRX3 hown hK hP 0 rfl rfl 2 (by decide) (hts (.fieldLink RX3 22 "Towerliftry" "log" "LTowerliftry$Log;") (by decide +kernel)) (fun _ h9 => h9) rfl dX3_checkEntry_6 ?_
    refine va_get (D := D) (ci := 5) (v := .int 0) (C := RX1) (T := TX1) (N := 2) hx hb hts hiRX1 hown hK hP 1 rfl rfl 1 (by decide) (hts (.fieldLink RX3 221 "Towerliftry$Log" "size" "I") (by decide +kernel)) (fun _ h9 => h9) rfl dX3_checkEntry_9 ?_
    refine lv_icmp_lt (tgt := 26) hx hb dX3_checkEntry_12 (by decide) (fun c_2 => absurd c_2 (by first | exact c_1 | exact not_not_intro c_1)) (fun c_2 => ?_)
    obtain ⟨sa, hstr⟩ := tw_str hF (q := (269, "no such entry")) (by decide)
    have hP9 := hP.sub (ws' := [(x, .inr (7, [.ref c1, .ref ps1, .ref lg, .int 9, .int 99, .int 0, .int 0, .int 0, .int ((-1)), .int 0, .int 0, .long 0])), (lg, .inr (5, [.ref en, .int 0]))]) [0, 1] rfl
    have hD9 := hD.sub (ws' := [(x, .inr (7, [.ref c1, .ref ps1, .ref lg, .int 9, .int 99, .int 0, .int 0, .int 0, .int ((-1)), .int 0, .int 0, .long 0])), (lg, .inr (5, [.ref en, .int 0]))]) [0, 1] (by decide) rfl
    have hK9 := hK.sub (tys' := []) [] rfl
    exact vx_throwSW hx hb hst (own := RX3) (cls := "java/lang/IndexOutOfBoundsException") (text := "no such entry") (names := ["java/lang/RuntimeException", "java/lang/Exception"]) (ik := 267) (is := 269) (ic := 271) hown (by decide +kernel) (by decide +kernel) (hts (.classLink RX3 267 "java/lang/IndexOutOfBoundsException") (by decide +kernel)) (hts (.initialized "java/lang/IndexOutOfBoundsException") (by decide +kernel)) hstr (tw_hat hF (fun w h => hts w (hx271 w h)) (by decide +kernel)) (by decide +kernel) hF.1 hF.2.1 hS (hl.1.trans hml.symm) dX3_checkEntry_15 dX3_checkEntry_18 dX3_checkEntry_19 dX3_checkEntry_22 dX3_checkEntry_25 (fun x9 h9 => (htab x9 h9).elim) (Nat.le_of_ble_eq_true rfl) (Nat.le_of_ble_eq_true rfl) (Nat.le_of_ble_eq_true rfl) (Nat.le_of_ble_eq_true rfl) hlocks (tw_exc hP9 hK9 hD9 hS _ rfl) hS.2.2 (Nat.le_of_ble_eq_true rfl) (Nat.le_of_ble_eq_true rfl)
set_option maxHeartbeats 4000000 in
set_option maxRecDepth 100000 in
theorem c_X3_firstIn (l : Launch) (hst : l.stackTraces = false) (em kw kb : Nat) (D : va_G) (x : Nat) (p0 : Int32) (c1 : Nat) (ps1 : Nat) (lg : Nat) (sz : Nat) : Met l yX3_firstIn wsX3_firstIn ({ frames := 1, cells := 0, slots := 0, locals := 20 }) (va_Pc [.ref x, .int p0] (tw_Pre em kw kb D sz [(x, .inr (7, [.ref c1, .ref ps1, .ref lg, .int 9, .int 99, .int 0, .int 0, .int 0, .int ((-1)), .int 0, .int 0, .long 0])), (c1, .inr (3, [.int 0, .ref em, .int 0]))] [])) (va_Qq (fun (r : Option Nat) (u : tw_U) => r = none ∧ u = ([(x, .inr (7, [.ref c1, .ref ps1, .ref lg, .int 9, .int 99, .int 0, .int 0, .int 0, .int ((-1)), .int 0, .int 0, .long 0])), (c1, .inr (3, [.int 0, .ref em, .int 0]))], [])) (tw_B D (va_A [(x, .inr (7, [.ref c1, .ref ps1, .ref lg, .int 9, .int 99, .int 0, .int 0, .int 0, .int ((-1)), .int 0, .int 0, .long 0])), (c1, .inr (3, [.int 0, .ref em, .int 0]))] sz)) (va_A [(x, .inr (7, [.ref c1, .ref ps1, .ref lg, .int 9, .int 99, .int 0, .int 0, .int 0, .int ((-1)), .int 0, .int 0, .long 0])), (c1, .inr (3, [.int 0, .ref em, .int 0]))] sz)) 0 0 (va_A [(x, .inr (7, [.ref c1, .ref ps1, .ref lg, .int 9, .int 99, .int 0, .int 0, .int 0, .int ((-1)), .int 0, .int 0, .long 0])), (c1, .inr (3, [.int 0, .ref em, .int 0]))] sz) := by
  refine Met.ofW (cc := cX3_firstIn) (maxL := 3) (ret := (some (.object "Towerliftry$Car"))) (by decide) rfl ?_
  intro p e s m args below meth c s₁ B hml hv
  obtain ⟨rfl, hsz, hP, hK, hD0, hF⟩ := hv
  have hx := B.exec
  have hb := B.bytes
  have hr := B.returns
  have hts := atoms_spec (ws := wsX3_firstIn) B.pre
  have hown : s.vm.findClass RX3 = some m.cls := findClass_of_methodNamed B.named
  have hlocks := B.notSynchronized
  have hiRX3 : ∀ w ∈ u_ws RX3 TX3 12, w ∈ wsX3_firstIn := by decide +kernel
  subst hsz
  have hD := hD0.self (sz := s.heap.size)
  generalize hAe : va_A [(x, .inr (7, [.ref c1, .ref ps1, .ref lg, .int 9, .int 99, .int 0, .int 0, .int 0, .int ((-1)), .int 0, .int 0, .long 0])), (c1, .inr (3, [.int 0, .ref em, .int 0]))] s.heap.size = A at hD hF ⊢
  have hA : ∀ q : Nat, s.heap.size ≤ q → A q := fun q h => by rw [← hAe]; exact Or.inr h
  have hS : va_S A s.heap s.heap [] := va_S.rf
  have hP : va_P D vwCl [(x, .inr (7, [.ref c1, .ref ps1, .ref lg, .int 9, .int 99, .int 0, .int 0, .int 0, .int ((-1)), .int 0, .int 0, .long 0])), (c1, .inr (3, [.int 0, .ref em, .int 0]))] s.heap := hP
  have hl := lv_entry ([.ref x, .int p0]) (n := 3) (Nat.le_of_ble_eq_true rfl)
  rw [lg_entry_eq]
  generalize (lg_sl ([.ref x, .int p0]) ++ List.replicate (3 - (lg_sl ([.ref x, .int p0])).length) Slot.unset).toArray = ls at hl ⊢
  have hl : lv_has ls 3 [(0, .ref x), (1, .int p0)] := hl
  refine lv_iconst (v := 0) hx hb dX3_firstIn_0 (by decide) ?_
  refine lv_istore_n (lv' := [(2, .int 0), (0, .ref x), (1, .int p0)]) hx hb dX3_firstIn_1 rfl hl (by decide) rfl (fun ls hl => ?_)
  refine lv_iload_n hx hb dX3_firstIn_2 rfl (lv_at hl 0 rfl) ?_
  refine lv_aload_n hx hb dX3_firstIn_3 rfl (lv_at hl 1 rfl) ?_
  refine va_get (D := D) (ci := 7) (v := .ref c1) (C := RX3) (T := TX3) (N := 12) hx hb hts hiRX3 hown hK hP 0 rfl rfl 0 (by decide) (hts (.fieldLink RX3 10 "Towerliftry" "cars" "Ljava/util/ArrayList;") (by decide +kernel)) (fun _ h9 => h9) rfl dX3_firstIn_4 ?_
  have hPc := hP.sub (ws' := [(c1, .inr (3, [.int 0, .ref em, .int 0]))]) [1] rfl
  have hDc := hD.sub (ws' := [(c1, .inr (3, [.int 0, .ref em, .int 0]))]) [1] (by decide) rfl
  have hKc := hK.sub (tys' := []) [] rfl
  have hFc := va_free (wc := [(c1, .inr (3, [.int 0, .ref em, .int 0]))]) hD hS hA [1] rfl
  refine va_calli (va_runV (As := []) (rest := [.int 0]) ⟨hx, hb, hml, hown, hts⟩ (c_size0 l hst em kw kb D c1 em _) (cwV 0 hts gX3_firstIn_Jx4a65c_size_8abf5 rfl rfl rfl (by decide +kernel) ⟨(Nat.le_of_ble_eq_true rfl), (Nat.le_of_ble_eq_true rfl)⟩) (tw_preV hF hS hFc hPc hKc hDc (va_recv hKc hPc (ci := 3) (q0 := 0) rfl rfl)) rfl rfl hl.1 rfl (lv_room (Nat.le_of_ble_eq_true rfl)) dX3_firstIn_7 ⟨(Nat.le_of_ble_eq_true rfl), (Nat.le_of_ble_eq_true rfl)⟩) hS (fun q _ h => hFc q h) hFc (fun r u t H locs ht hvm hw hB hz1 hk1 hS => ?_)
  obtain ⟨rfl, rfl⟩ := hw
  obtain ⟨hP, hD, hK⟩ := tw_join (wr := [(x, .inr (7, [.ref c1, .ref ps1, .ref lg, .int 9, .int 99, .int 0, .int 0, .int 0, .int ((-1)), .int 0, .int 0, .long 0]))]) hP hD hK [1] [0] rfl rfl (by decide) (by decide) hk1 hFc ht hvm hB
  have hP : va_P D vwCl [(x, .inr (7, [.ref c1, .ref ps1, .ref lg, .int 9, .int 99, .int 0, .int 0, .int 0, .int ((-1)), .int 0, .int 0, .long 0])), (c1, .inr (3, [.int 0, .ref em, .int 0]))] _ := hP
  have hD : va_D A [(x, .inr (7, [.ref c1, .ref ps1, .ref lg, .int 9, .int 99, .int 0, .int 0, .int 0, .int ((-1)), .int 0, .int 0, .long 0])), (c1, .inr (3, [.int 0, .ref em, .int 0]))] := hD
  have hK : va_K D vwCl [] s := hK
  refine W.widen (k := 0) (n := 0) (Nat.le_refl _) (Nat.le_refl _) ?_
  refine W.eq (g2 := F0 m 10 ls [.int 0, .int 0]) rfl ?_
  refine lv_icmp_ge (tgt := 49) hx hb dX3_firstIn_10 (by decide) (fun c9 => ?_) (fun c9 => absurd c9 (by decide))
  refine lv_null hx hb dX3_firstIn_49 ?_
  refine W.widen (k := 0) (n := 0) (Nat.le_of_ble_eq_true rfl) (Nat.le_of_ble_eq_true rfl) ?_
  have hP9 := hP.sub (ws' := [(x, .inr (7, [.ref c1, .ref ps1, .ref lg, .int 9, .int 99, .int 0, .int 0, .int 0, .int ((-1)), .int 0, .int 0, .long 0])), (c1, .inr (3, [.int 0, .ref em, .int 0]))]) [0, 1] rfl
  have hD9 := hD.sub (ws' := [(x, .inr (7, [.ref c1, .ref ps1, .ref lg, .int 9, .int 99, .int 0, .int 0, .int 0, .int ((-1)), .int 0, .int 0, .long 0])), (c1, .inr (3, [.int 0, .ref em, .int 0]))]) [0, 1] (by decide) rfl
  have hK9 := hK.sub (tys' := []) [] rfl
  exact W.aret (v := .null) hx hb hr (Or.inl ⟨_, rfl⟩) (Or.inl rfl) (fun t ht hW => ⟨⟨none, ([(x, .inr (7, [.ref c1, .ref ps1, .ref lg, .int 9, .int 99, .int 0, .int 0, .int 0, .int ((-1)), .int 0, .int 0, .long 0])), (c1, .inr (3, [.int 0, .ref em, .int 0]))], []), rfl, ⟨rfl, rfl⟩, by rw [ht]; exact hP9, va_K.moved hW.alike hK9, hD9⟩, hS.F ht⟩) hS.2.2 dX3_firstIn_50
set_option maxHeartbeats 4000000 in
set_option maxRecDepth 100000 in
theorem c_X3_countIn (l : Launch) (hst : l.stackTraces = false) (em kw kb : Nat) (D : va_G) (x : Nat) (p0 : Int32) (c1 : Nat) (ps1 : Nat) (lg : Nat) (sz : Nat) : Met l yX3_countIn wsX3_countIn ({ frames := 1, cells := 0, slots := 0, locals := 20 }) (va_Pc [.ref x, .int p0] (tw_Pre em kw kb D sz [(x, .inr (7, [.ref c1, .ref ps1, .ref lg, .int 9, .int 99, .int 0, .int 0, .int 0, .int ((-1)), .int 0, .int 0, .long 0])), (ps1, .inr (3, [.int 0, .ref em, .int 0]))] [])) (va_Qi (fun (r : Int32) (u : tw_U) => r = 0 ∧ u = ([(x, .inr (7, [.ref c1, .ref ps1, .ref lg, .int 9, .int 99, .int 0, .int 0, .int 0, .int ((-1)), .int 0, .int 0, .long 0])), (ps1, .inr (3, [.int 0, .ref em, .int 0]))], [])) (tw_B D (va_A [(x, .inr (7, [.ref c1, .ref ps1, .ref lg, .int 9, .int 99, .int 0, .int 0, .int 0, .int ((-1)), .int 0, .int 0, .long 0])), (ps1, .inr (3, [.int 0, .ref em, .int 0]))] sz)) (va_A [(x, .inr (7, [.ref c1, .ref ps1, .ref lg, .int 9, .int 99, .int 0, .int 0, .int 0, .int ((-1)), .int 0, .int 0, .long 0])), (ps1, .inr (3, [.int 0, .ref em, .int 0]))] sz)) 0 0 (va_A [(x, .inr (7, [.ref c1, .ref ps1, .ref lg, .int 9, .int 99, .int 0, .int 0, .int 0, .int ((-1)), .int 0, .int 0, .long 0])), (ps1, .inr (3, [.int 0, .ref em, .int 0]))] sz) := by
  refine Met.ofW (cc := cX3_countIn) (maxL := 4) (ret := (some .int)) (by decide) rfl ?_
  intro p e s m args below meth c s₁ B hml hv
  obtain ⟨rfl, hsz, hP, hK, hD0, hF⟩ := hv
  have hx := B.exec
  have hb := B.bytes
  have hr := B.returns
  have hts := atoms_spec (ws := wsX3_countIn) B.pre
  have hown : s.vm.findClass RX3 = some m.cls := findClass_of_methodNamed B.named
  have hlocks := B.notSynchronized
  have hiRX3 : ∀ w ∈ u_ws RX3 TX3 12, w ∈ wsX3_countIn := by decide +kernel
  subst hsz
  have hD := hD0.self (sz := s.heap.size)
  generalize hAe : va_A [(x, .inr (7, [.ref c1, .ref ps1, .ref lg, .int 9, .int 99, .int 0, .int 0, .int 0, .int ((-1)), .int 0, .int 0, .long 0])), (ps1, .inr (3, [.int 0, .ref em, .int 0]))] s.heap.size = A at hD hF ⊢
  have hA : ∀ q : Nat, s.heap.size ≤ q → A q := fun q h => by rw [← hAe]; exact Or.inr h
  have hS : va_S A s.heap s.heap [] := va_S.rf
  have hP : va_P D vwCl [(x, .inr (7, [.ref c1, .ref ps1, .ref lg, .int 9, .int 99, .int 0, .int 0, .int 0, .int ((-1)), .int 0, .int 0, .long 0])), (ps1, .inr (3, [.int 0, .ref em, .int 0]))] s.heap := hP
  have hl := lv_entry ([.ref x, .int p0]) (n := 4) (Nat.le_of_ble_eq_true rfl)
  rw [lg_entry_eq]
  generalize (lg_sl ([.ref x, .int p0]) ++ List.replicate (4 - (lg_sl ([.ref x, .int p0])).length) Slot.unset).toArray = ls at hl ⊢
  have hl : lv_has ls 4 [(0, .ref x), (1, .int p0)] := hl
  refine lv_iconst (v := 0) hx hb dX3_countIn_0 (by decide) ?_
  refine lv_istore_n (lv' := [(2, .int 0), (0, .ref x), (1, .int p0)]) hx hb dX3_countIn_1 rfl hl (by decide) rfl (fun ls hl => ?_)
  refine lv_iconst (v := 0) hx hb dX3_countIn_2 (by decide) ?_
  refine lv_istore_n (lv' := [(3, .int 0), (2, .int 0), (0, .ref x), (1, .int p0)]) hx hb dX3_countIn_3 rfl hl (by decide) rfl (fun ls hl => ?_)
  refine lv_iload_n hx hb dX3_countIn_4 rfl (lv_at hl 0 rfl) ?_
  refine lv_aload_n hx hb dX3_countIn_5 rfl (lv_at hl 2 rfl) ?_
  refine va_get (D := D) (ci := 7) (v := .ref ps1) (C := RX3) (T := TX3) (N := 12) hx hb hts hiRX3 hown hK hP 0 rfl rfl 1 (by decide) (hts (.fieldLink RX3 16 "Towerliftry" "persons" "Ljava/util/ArrayList;") (by decide +kernel)) (fun _ h9 => h9) rfl dX3_countIn_6 ?_
  have hPc := hP.sub (ws' := [(ps1, .inr (3, [.int 0, .ref em, .int 0]))]) [1] rfl
  have hDc := hD.sub (ws' := [(ps1, .inr (3, [.int 0, .ref em, .int 0]))]) [1] (by decide) rfl
  have hKc := hK.sub (tys' := []) [] rfl
  have hFc := va_free (wc := [(ps1, .inr (3, [.int 0, .ref em, .int 0]))]) hD hS hA [1] rfl
  refine va_calli (va_runV (As := []) (rest := [.int 0]) ⟨hx, hb, hml, hown, hts⟩ (c_size0 l hst em kw kb D ps1 em _) (cwV 0 hts gX3_countIn_Jx4a65c_size_8abf5 rfl rfl rfl (by decide +kernel) ⟨(Nat.le_of_ble_eq_true rfl), (Nat.le_of_ble_eq_true rfl)⟩) (tw_preV hF hS hFc hPc hKc hDc (va_recv hKc hPc (ci := 3) (q0 := 0) rfl rfl)) rfl rfl hl.1 rfl (lv_room (Nat.le_of_ble_eq_true rfl)) dX3_countIn_9 ⟨(Nat.le_of_ble_eq_true rfl), (Nat.le_of_ble_eq_true rfl)⟩) hS (fun q _ h => hFc q h) hFc (fun r u t H locs ht hvm hw hB hz1 hk1 hS => ?_)
  obtain ⟨rfl, rfl⟩ := hw
  obtain ⟨hP, hD, hK⟩ := tw_join (wr := [(x, .inr (7, [.ref c1, .ref ps1, .ref lg, .int 9, .int 99, .int 0, .int 0, .int 0, .int ((-1)), .int 0, .int 0, .long 0]))]) hP hD hK [1] [0] rfl rfl (by decide) (by decide) hk1 hFc ht hvm hB
  have hP : va_P D vwCl [(x, .inr (7, [.ref c1, .ref ps1, .ref lg, .int 9, .int 99, .int 0, .int 0, .int 0, .int ((-1)), .int 0, .int 0, .long 0])), (ps1, .inr (3, [.int 0, .ref em, .int 0]))] _ := hP
  have hD : va_D A [(x, .inr (7, [.ref c1, .ref ps1, .ref lg, .int 9, .int 99, .int 0, .int 0, .int 0, .int ((-1)), .int 0, .int 0, .long 0])), (ps1, .inr (3, [.int 0, .ref em, .int 0]))] := hD
  have hK : va_K D vwCl [] s := hK
  refine W.widen (k := 0) (n := 0) (Nat.le_refl _) (Nat.le_refl _) ?_
  refine W.eq (g2 := F0 m 12 ls [.int 0, .int 0]) rfl ?_
  refine lv_icmp_ge (tgt := 42) hx hb dX3_countIn_12 (by decide) (fun c9 => ?_) (fun c9 => absurd c9 (by decide))
  refine lv_iload_n hx hb dX3_countIn_42 rfl (lv_at hl 1 rfl) ?_
  refine W.widen (k := 0) (n := 0) (Nat.le_of_ble_eq_true rfl) (Nat.le_of_ble_eq_true rfl) ?_
  have hP9 := hP.sub (ws' := [(x, .inr (7, [.ref c1, .ref ps1, .ref lg, .int 9, .int 99, .int 0, .int 0, .int 0, .int ((-1)), .int 0, .int 0, .long 0])), (ps1, .inr (3, [.int 0, .ref em, .int 0]))]) [0, 1] rfl
  have hD9 := hD.sub (ws' := [(x, .inr (7, [.ref c1, .ref ps1, .ref lg, .int 9, .int 99, .int 0, .int 0, .int 0, .int ((-1)), .int 0, .int 0, .long 0])), (ps1, .inr (3, [.int 0, .ref em, .int 0]))]) [0, 1] (by decide) rfl
  have hK9 := hK.sub (tys' := []) [] rfl
  exact W.iret (v := 0) hx hb hr (fun t ht hW => ⟨⟨0, ([(x, .inr (7, [.ref c1, .ref ps1, .ref lg, .int 9, .int 99, .int 0, .int 0, .int 0, .int ((-1)), .int 0, .int 0, .long 0])), (ps1, .inr (3, [.int 0, .ref em, .int 0]))], []), rfl, ⟨rfl, rfl⟩, by rw [ht]; exact hP9, va_K.moved hW.alike hK9, hD9⟩, hS.F ht⟩) hS.2.2 dX3_countIn_43
set_option maxHeartbeats 4000000 in
set_option maxRecDepth 100000 in
theorem c_X0_servedBetween (l : Launch) (hst : l.stackTraces = false) (em kw kb : Nat) (D : va_G) (p0 : Int32) (p1 : Int32) (p2 : Int32) (sz : Nat) : Met l yX0_servedBetween wsX0_servedBetween ({ frames := 1, cells := 0, slots := 0, locals := 20 }) (va_Pc [.int p0, .int p1, .int p2] (tw_Pre em kw kb D sz [] [])) (va_Qi (fun (r : Int32) (u : tw_U) => r = ((((1 : Int32) <<< ((p1 + (1 : Int32)) &&& 31)) - (1 : Int32)) &&& ((((1 : Int32) <<< (p0 &&& 31)) - (1 : Int32)) ^^^ ((-1) : Int32))) &&& (((1 : Int32) <<< (0 &&& 31)) ||| ((((1 : Int32) <<< (p2 &&& 31)) - (1 : Int32)) ^^^ ((-1) : Int32))) ∧ u = ([], [])) (tw_B D (va_A [] sz)) (va_A [] sz)) 0 0 (va_A [] sz) := by
  refine Met.ofW (cc := cX0_servedBetween) (maxL := 5) (ret := (some .int)) (by decide) rfl ?_
  intro p e s m args below meth c s₁ B hml hv
  obtain ⟨rfl, hsz, hP, hK, hD0, hF⟩ := hv
  have hx := B.exec
  have hb := B.bytes
  have hr := B.returns
  have hts := atoms_spec (ws := wsX0_servedBetween) B.pre
  have hown : s.vm.findClass RX0 = some m.cls := findClass_of_methodNamed B.named
  have hlocks := B.notSynchronized
  subst hsz
  have hD := hD0.self (sz := s.heap.size)
  generalize hAe : va_A [] s.heap.size = A at hD hF ⊢
  have hA : ∀ q : Nat, s.heap.size ≤ q → A q := fun q h => by rw [← hAe]; exact Or.inr h
  have hS : va_S A s.heap s.heap [] := va_S.rf
  have hP : va_P D vwCl [] s.heap := hP
  have hl := lv_entry ([.int p0, .int p1, .int p2]) (n := 5) (Nat.le_of_ble_eq_true rfl)
  rw [lg_entry_eq]
  generalize (lg_sl ([.int p0, .int p1, .int p2]) ++ List.replicate (5 - (lg_sl ([.int p0, .int p1, .int p2])).length) Slot.unset).toArray = ls at hl ⊢
  have hl : lv_has ls 5 [(0, .int p0), (1, .int p1), (2, .int p2)] := hl
  refine lv_iload_n hx hb dX0_servedBetween_0 rfl (lv_at hl 1 rfl) ?_
  refine lv_iconst (v := 1) hx hb dX0_servedBetween_1 (by decide) ?_
  refine lv_iadd hx hb dX0_servedBetween_2 ?_
  have hPc := hP.sub (ws' := []) [] rfl
  have hDc := hD.sub (ws' := []) [] (by decide) rfl
  have hKc := hK.sub (tys' := []) [] rfl
  have hFc := va_free (wc := []) hD hS hA [] rfl
  refine va_calli (va_runSN (As := [.int (p1 + (1 : Int32))]) (rest := []) ⟨hx, hb, hml, hown, hts⟩ (c_X3_bit l hst em kw kb D (p1 + (1 : Int32)) _) ⟨va_cnB 1 hts gX0_servedBetween_X3_bit_n40 rfl rfl rfl (tw_nm hF (q := (RX0, 40, yX3_bit, RX3)) (by decide)) (hts (.initialized RX3) (by decide +kernel)) (by decide +kernel) ⟨(Nat.le_of_ble_eq_true rfl), (Nat.le_of_ble_eq_true rfl)⟩, (hts (.static yX3_bit) (by decide +kernel)), trivial⟩ (tw_preS hF hS hFc hPc hKc hDc) rfl rfl hl.1 rfl (lv_room (Nat.le_of_ble_eq_true rfl)) dX0_servedBetween_3 ⟨(Nat.le_of_ble_eq_true rfl), (Nat.le_of_ble_eq_true rfl)⟩) hS (fun q _ h => hFc q h) hFc (fun r u t H locs ht hvm hw hB hz1 hk1 hS => ?_)
  obtain ⟨rfl, rfl⟩ := hw
  obtain ⟨hP, hD, hK⟩ := tw_join (wr := []) hP hD hK [] [] rfl rfl (by decide) (by decide) hk1 hFc ht hvm hB
  have hP : va_P D vwCl [] _ := hP
  have hD : va_D A [] := hD
  have hK : va_K D vwCl [] s := hK
  refine W.widen (k := 0) (n := 0) (Nat.le_refl _) (Nat.le_refl _) ?_
  refine W.eq (g2 := F0 m 6 ls [.int ((1 : Int32) <<< ((p1 + (1 : Int32)) &&& 31))]) rfl ?_
  refine lv_iconst (v := 1) hx hb dX0_servedBetween_6 (by decide) ?_
  refine lv_isub hx hb dX0_servedBetween_7 ?_
  refine lv_iload_n hx hb dX0_servedBetween_8 rfl (lv_at hl 0 rfl) ?_
  have hPc := hP.sub (ws' := []) [] rfl
  have hDc := hD.sub (ws' := []) [] (by decide) rfl
  have hKc := hK.sub (tys' := []) [] rfl
  have hFc := va_free (wc := []) hD hS hA [] rfl
  refine va_calli (va_runSN (As := [.int p0]) (rest := [.int (((1 : Int32) <<< ((p1 + (1 : Int32)) &&& 31)) - (1 : Int32))]) ⟨hx, hb, hml, hown, hts⟩ (c_X3_bit l hst em kw kb D p0 _) ⟨va_cnB 1 hts gX0_servedBetween_X3_bit_n40 rfl rfl rfl (tw_nm hF (q := (RX0, 40, yX3_bit, RX3)) (by decide)) (hts (.initialized RX3) (by decide +kernel)) (by decide +kernel) ⟨(Nat.le_of_ble_eq_true rfl), (Nat.le_of_ble_eq_true rfl)⟩, (hts (.static yX3_bit) (by decide +kernel)), trivial⟩ (tw_preS hF hS hFc hPc hKc hDc) rfl rfl hl.1 rfl (lv_room (Nat.le_of_ble_eq_true rfl)) dX0_servedBetween_9 ⟨(Nat.le_of_ble_eq_true rfl), (Nat.le_of_ble_eq_true rfl)⟩) hS (fun q _ h => hFc q h) hFc (fun r u t H locs ht hvm hw hB hz1 hk1 hS => ?_)
  obtain ⟨rfl, rfl⟩ := hw
  obtain ⟨hP, hD, hK⟩ := tw_join (wr := []) hP hD hK [] [] rfl rfl (by decide) (by decide) hk1 hFc ht hvm hB
  have hP : va_P D vwCl [] _ := hP
  have hD : va_D A [] := hD
  have hK : va_K D vwCl [] s := hK
  refine W.widen (k := 0) (n := 0) (Nat.le_refl _) (Nat.le_refl _) ?_
  refine W.eq (g2 := F0 m 12 ls [.int ((1 : Int32) <<< (p0 &&& 31)), .int (((1 : Int32) <<< ((p1 + (1 : Int32)) &&& 31)) - (1 : Int32))]) rfl ?_
  refine lv_iconst (v := 1) hx hb dX0_servedBetween_12 (by decide) ?_
  refine lv_isub hx hb dX0_servedBetween_13 ?_
  refine lv_iconst (v := (-1)) hx hb dX0_servedBetween_14 (by decide) ?_
  refine lv_ixor hx hb dX0_servedBetween_15 ?_
  refine lv_iand hx hb dX0_servedBetween_16 ?_
  refine lv_istore_n (lv' := [(3, .int ((((1 : Int32) <<< ((p1 + (1 : Int32)) &&& 31)) - (1 : Int32)) &&& ((((1 : Int32) <<< (p0 &&& 31)) - (1 : Int32)) ^^^ ((-1) : Int32)))), (0, .int p0), (1, .int p1), (2, .int p2)]) hx hb dX0_servedBetween_17 rfl hl (by decide) rfl (fun ls hl => ?_)
  refine lv_iconst (v := 0) hx hb dX0_servedBetween_18 (by decide) ?_
  have hPc := hP.sub (ws' := []) [] rfl
  have hDc := hD.sub (ws' := []) [] (by decide) rfl
  have hKc := hK.sub (tys' := []) [] rfl
  have hFc := va_free (wc := []) hD hS hA [] rfl
  refine va_calli (va_runSN (As := [.int 0]) (rest := []) ⟨hx, hb, hml, hown, hts⟩ (c_X3_bit l hst em kw kb D 0 _) ⟨va_cnB 1 hts gX0_servedBetween_X3_bit_n40 rfl rfl rfl (tw_nm hF (q := (RX0, 40, yX3_bit, RX3)) (by decide)) (hts (.initialized RX3) (by decide +kernel)) (by decide +kernel) ⟨(Nat.le_of_ble_eq_true rfl), (Nat.le_of_ble_eq_true rfl)⟩, (hts (.static yX3_bit) (by decide +kernel)), trivial⟩ (tw_preS hF hS hFc hPc hKc hDc) rfl rfl hl.1 rfl (lv_room (Nat.le_of_ble_eq_true rfl)) dX0_servedBetween_19 ⟨(Nat.le_of_ble_eq_true rfl), (Nat.le_of_ble_eq_true rfl)⟩) hS (fun q _ h => hFc q h) hFc (fun r u t H locs ht hvm hw hB hz1 hk1 hS => ?_)
  obtain ⟨rfl, rfl⟩ := hw
  obtain ⟨hP, hD, hK⟩ := tw_join (wr := []) hP hD hK [] [] rfl rfl (by decide) (by decide) hk1 hFc ht hvm hB
  have hP : va_P D vwCl [] _ := hP
  have hD : va_D A [] := hD
  have hK : va_K D vwCl [] s := hK
  refine W.widen (k := 0) (n := 0) (Nat.le_refl _) (Nat.le_refl _) ?_
  refine W.eq (g2 := F0 m 22 ls [.int ((1 : Int32) <<< (0 &&& 31))]) rfl ?_
  refine lv_iload_n hx hb dX0_servedBetween_22 rfl (lv_at hl 3 rfl) ?_
  have hPc := hP.sub (ws' := []) [] rfl
  have hDc := hD.sub (ws' := []) [] (by decide) rfl
  have hKc := hK.sub (tys' := []) [] rfl
  have hFc := va_free (wc := []) hD hS hA [] rfl
  refine va_calli (va_runSN (As := [.int p2]) (rest := [.int ((1 : Int32) <<< (0 &&& 31))]) ⟨hx, hb, hml, hown, hts⟩ (c_X3_bit l hst em kw kb D p2 _) ⟨va_cnB 1 hts gX0_servedBetween_X3_bit_n40 rfl rfl rfl (tw_nm hF (q := (RX0, 40, yX3_bit, RX3)) (by decide)) (hts (.initialized RX3) (by decide +kernel)) (by decide +kernel) ⟨(Nat.le_of_ble_eq_true rfl), (Nat.le_of_ble_eq_true rfl)⟩, (hts (.static yX3_bit) (by decide +kernel)), trivial⟩ (tw_preS hF hS hFc hPc hKc hDc) rfl rfl hl.1 rfl (lv_room (Nat.le_of_ble_eq_true rfl)) dX0_servedBetween_23 ⟨(Nat.le_of_ble_eq_true rfl), (Nat.le_of_ble_eq_true rfl)⟩) hS (fun q _ h => hFc q h) hFc (fun r u t H locs ht hvm hw hB hz1 hk1 hS => ?_)
  obtain ⟨rfl, rfl⟩ := hw
  obtain ⟨hP, hD, hK⟩ := tw_join (wr := []) hP hD hK [] [] rfl rfl (by decide) (by decide) hk1 hFc ht hvm hB
  have hP : va_P D vwCl [] _ := hP
  have hD : va_D A [] := hD
  have hK : va_K D vwCl [] s := hK
  refine W.widen (k := 0) (n := 0) (Nat.le_refl _) (Nat.le_refl _) ?_
  refine W.eq (g2 := F0 m 26 ls [.int ((1 : Int32) <<< (p2 &&& 31)), .int ((1 : Int32) <<< (0 &&& 31))]) rfl ?_
  refine lv_iconst (v := 1) hx hb dX0_servedBetween_26 (by decide) ?_
  refine lv_isub hx hb dX0_servedBetween_27 ?_
  refine lv_iconst (v := (-1)) hx hb dX0_servedBetween_28 (by decide) ?_
  refine lv_ixor hx hb dX0_servedBetween_29 ?_
  refine lv_ior hx hb dX0_servedBetween_30 ?_
  refine lv_istore (lv' := [(4, .int (((1 : Int32) <<< (0 &&& 31)) ||| ((((1 : Int32) <<< (p2 &&& 31)) - (1 : Int32)) ^^^ ((-1) : Int32)))), (3, .int ((((1 : Int32) <<< ((p1 + (1 : Int32)) &&& 31)) - (1 : Int32)) &&& ((((1 : Int32) <<< (p0 &&& 31)) - (1 : Int32)) ^^^ ((-1) : Int32)))), (0, .int p0), (1, .int p1), (2, .int p2)]) hx hb dX0_servedBetween_31 hl (by decide) rfl (fun ls hl => ?_)
  refine lv_iload_n hx hb dX0_servedBetween_33 rfl (lv_at hl 1 rfl) ?_
  refine lv_iload hx hb dX0_servedBetween_34 (lv_at hl 0 rfl) ?_
  refine lv_iand hx hb dX0_servedBetween_36 ?_
  refine W.widen (k := 0) (n := 0) (Nat.le_of_ble_eq_true rfl) (Nat.le_of_ble_eq_true rfl) ?_
  have hP9 := hP.sub (ws' := []) [] rfl
  have hD9 := hD.sub (ws' := []) [] (by decide) rfl
  have hK9 := hK.sub (tys' := []) [] rfl
  exact W.iret (v := ((((1 : Int32) <<< ((p1 + (1 : Int32)) &&& 31)) - (1 : Int32)) &&& ((((1 : Int32) <<< (p0 &&& 31)) - (1 : Int32)) ^^^ ((-1) : Int32))) &&& (((1 : Int32) <<< (0 &&& 31)) ||| ((((1 : Int32) <<< (p2 &&& 31)) - (1 : Int32)) ^^^ ((-1) : Int32)))) hx hb hr (fun t ht hW => ⟨⟨((((1 : Int32) <<< ((p1 + (1 : Int32)) &&& 31)) - (1 : Int32)) &&& ((((1 : Int32) <<< (p0 &&& 31)) - (1 : Int32)) ^^^ ((-1) : Int32))) &&& (((1 : Int32) <<< (0 &&& 31)) ||| ((((1 : Int32) <<< (p2 &&& 31)) - (1 : Int32)) ^^^ ((-1) : Int32))), ([], []), rfl, ⟨rfl, rfl⟩, by rw [ht]; exact hP9, va_K.moved hW.alike hK9, hD9⟩, hS.F ht⟩) hS.2.2 dX0_servedBetween_37
set_option maxHeartbeats 4000000 in
set_option maxRecDepth 100000 in
theorem c_X0_init (l : Launch) (hst : l.stackTraces = false) (em kw kb : Nat) (D : va_G) (ca : Nat) (p0 : Int32) (p1 : Int32) (p2 : Int32) (p3 : Int32) (p4 : Int32) (sz : Nat) : Met l yX0_init wsX0_init ({ frames := 2, cells := 0, slots := 0, locals := 44 }) (va_Pc [.ref ca, .int p0, .int p1, .int p2, .int p3, .int p4] (tw_Pre em kw kb D sz [(ca, .inr (4, [.int 0, .int 0, .int 0, .int 0, .int 0, .int 0, .int 0, .int 0, .int 0, .int 0, .int 0, .int 0, .int 0, .int 0, .int 0, .int 0, .int 0, .int 0, .null]))] [])) (va_Qv (fun (u : tw_U) => u = ([(ca, .inr (4, [.int p0, .int p1, .int p2, .int p3, .int 0, .int 0, .int p4, .int (((((1 : Int32) <<< ((p4 + (1 : Int32)) &&& 31)) - (1 : Int32)) &&& ((((1 : Int32) <<< (0 &&& 31)) - (1 : Int32)) ^^^ ((-1) : Int32))) &&& (((1 : Int32) <<< (0 &&& 31)) ||| ((((1 : Int32) <<< (p3 &&& 31)) - (1 : Int32)) ^^^ ((-1) : Int32)))), .int 0, .int 0, .int 0, .int ((-1)), .int 0, .int 0, .int 0, .int 0, .int ((-1)), .int 0, .null]))], [])) (tw_B D (va_A [(ca, .inr (4, [.int 0, .int 0, .int 0, .int 0, .int 0, .int 0, .int 0, .int 0, .int 0, .int 0, .int 0, .int 0, .int 0, .int 0, .int 0, .int 0, .int 0, .int 0, .null]))] sz)) (va_A [(ca, .inr (4, [.int 0, .int 0, .int 0, .int 0, .int 0, .int 0, .int 0, .int 0, .int 0, .int 0, .int 0, .int 0, .int 0, .int 0, .int 0, .int 0, .int 0, .int 0, .null]))] sz)) 0 0 (va_A [(ca, .inr (4, [.int 0, .int 0, .int 0, .int 0, .int 0, .int 0, .int 0, .int 0, .int 0, .int 0, .int 0, .int 0, .int 0, .int 0, .int 0, .int 0, .int 0, .int 0, .null]))] sz) := by
  refine Met.ofW (cc := cX0_init) (maxL := 6) (ret := none) (by decide) rfl ?_
  intro p e s m args below meth c s₁ B hml hv
  obtain ⟨rfl, hsz, hP, hK, hD0, hF⟩ := hv
  have hx := B.exec
  have hb := B.bytes
  have hr := B.returns
  have hts := atoms_spec (ws := wsX0_init) B.pre
  have hown : s.vm.findClass RX0 = some m.cls := findClass_of_methodNamed B.named
  have hlocks := B.notSynchronized
  have hin : meth.name = "<init>" := (name_of_methodNamed B.named B.method).1
  have hiRX0 : ∀ w ∈ u_ws RX0 TX0 19, w ∈ wsX0_init := by decide +kernel
  subst hsz
  have hD := hD0.self (sz := s.heap.size)
  generalize hAe : va_A [(ca, .inr (4, [.int 0, .int 0, .int 0, .int 0, .int 0, .int 0, .int 0, .int 0, .int 0, .int 0, .int 0, .int 0, .int 0, .int 0, .int 0, .int 0, .int 0, .int 0, .null]))] s.heap.size = A at hD hF ⊢
  have hA : ∀ q : Nat, s.heap.size ≤ q → A q := fun q h => by rw [← hAe]; exact Or.inr h
  have hS : va_S A s.heap s.heap [] := va_S.rf
  have hP : va_P D vwCl [(ca, .inr (4, [.int 0, .int 0, .int 0, .int 0, .int 0, .int 0, .int 0, .int 0, .int 0, .int 0, .int 0, .int 0, .int 0, .int 0, .int 0, .int 0, .int 0, .int 0, .null]))] s.heap := hP
  have hl := lv_entry ([.ref ca, .int p0, .int p1, .int p2, .int p3, .int p4]) (n := 6) (Nat.le_of_ble_eq_true rfl)
  rw [lg_entry_eq]
  generalize (lg_sl ([.ref ca, .int p0, .int p1, .int p2, .int p3, .int p4]) ++ List.replicate (6 - (lg_sl ([.ref ca, .int p0, .int p1, .int p2, .int p3, .int p4])).length) Slot.unset).toArray = ls at hl ⊢
  have hl : lv_has ls 6 [(0, .ref ca), (1, .int p0), (2, .int p1), (3, .int p2), (4, .int p3), (5, .int p4)] := hl
  refine lv_aload_n hx hb dX0_init_0 rfl (lv_at hl 0 rfl) ?_
  refine W.objInit hx hb hown (hts (.methodLink RX0 3 objectInit) (by decide +kernel)) (hts (.instanceMethod objectInit) (by decide +kernel)) (hts (.code objectInit ⟨#[0xb1]⟩ 1 none) (by decide +kernel)) rfl (by rw [hml]; exact hl.1) rfl dX0_init_1 (Nat.le_of_ble_eq_true rfl) (Nat.le_of_ble_eq_true rfl) ?_
  refine W.eq (g2 := F0 m 4 ls []) rfl ?_
  refine lv_aload_n hx hb dX0_init_4 rfl (lv_at hl 0 rfl) ?_
  refine lv_iload_n hx hb dX0_init_5 rfl (lv_at hl 1 rfl) ?_
  refine va_putF (D := D) (ci := 4) (v := .int p0) (ty := .int) (C := RX0) (T := TX0) (N := 19) hx hb hts hiRX0 tyX0 tyX0_ok nmX0 hown hK hP hD hS 0 rfl rfl 0 (by decide) (hts (.fieldLink RX0 9 "Towerliftry$Car" "number" "I") (by decide +kernel)) (fun _ h9 => h9) rfl hin rfl (by decide +kernel) rfl rfl (Nat.le_of_ble_eq_true rfl) dX0_init_6 (fun H locs hP hD hS => ?_)
  have hP : va_P D vwCl [(ca, .inr (4, [.int p0, .int 0, .int 0, .int 0, .int 0, .int 0, .int 0, .int 0, .int 0, .int 0, .int 0, .int 0, .int 0, .int 0, .int 0, .int 0, .int 0, .int 0, .null]))] _ := hP
  have hD : va_D A [(ca, .inr (4, [.int p0, .int 0, .int 0, .int 0, .int 0, .int 0, .int 0, .int 0, .int 0, .int 0, .int 0, .int 0, .int 0, .int 0, .int 0, .int 0, .int 0, .int 0, .null]))] := hD
  refine lv_aload_n hx hb dX0_init_9 rfl (lv_at hl 0 rfl) ?_
  refine lv_iload_n hx hb dX0_init_10 rfl (lv_at hl 2 rfl) ?_
  refine va_putF (D := D) (ci := 4) (v := .int p1) (ty := .int) (C := RX0) (T := TX0) (N := 19) hx hb hts hiRX0 tyX0 tyX0_ok nmX0 hown hK hP hD hS 0 rfl rfl 1 (by decide) (hts (.fieldLink RX0 15 "Towerliftry$Car" "shaft" "I") (by decide +kernel)) (fun _ h9 => h9) rfl hin rfl (by decide +kernel) rfl rfl (Nat.le_of_ble_eq_true rfl) dX0_init_11 (fun H locs hP hD hS => ?_)
  have hP : va_P D vwCl [(ca, .inr (4, [.int p0, .int p1, .int 0, .int 0, .int 0, .int 0, .int 0, .int 0, .int 0, .int 0, .int 0, .int 0, .int 0, .int 0, .int 0, .int 0, .int 0, .int 0, .null]))] _ := hP
  have hD : va_D A [(ca, .inr (4, [.int p0, .int p1, .int 0, .int 0, .int 0, .int 0, .int 0, .int 0, .int 0, .int 0, .int 0, .int 0, .int 0, .int 0, .int 0, .int 0, .int 0, .int 0, .null]))] := hD
  refine lv_aload_n hx hb dX0_init_14 rfl (lv_at hl 0 rfl) ?_
  refine lv_iload_n hx hb dX0_init_15 rfl (lv_at hl 3 rfl) ?_
  refine va_putF (D := D) (ci := 4) (v := .int p2) (ty := .int) (C := RX0) (T := TX0) (N := 19) hx hb hts hiRX0 tyX0 tyX0_ok nmX0 hown hK hP hD hS 0 rfl rfl 2 (by decide) (hts (.fieldLink RX0 18 "Towerliftry$Car" "room" "I") (by decide +kernel)) (fun _ h9 => h9) rfl hin rfl (by decide +kernel) rfl rfl (Nat.le_of_ble_eq_true rfl) dX0_init_16 (fun H locs hP hD hS => ?_)
  have hP : va_P D vwCl [(ca, .inr (4, [.int p0, .int p1, .int p2, .int 0, .int 0, .int 0, .int 0, .int 0, .int 0, .int 0, .int 0, .int 0, .int 0, .int 0, .int 0, .int 0, .int 0, .int 0, .null]))] _ := hP
  have hD : va_D A [(ca, .inr (4, [.int p0, .int p1, .int p2, .int 0, .int 0, .int 0, .int 0, .int 0, .int 0, .int 0, .int 0, .int 0, .int 0, .int 0, .int 0, .int 0, .int 0, .int 0, .null]))] := hD
  refine lv_aload_n hx hb dX0_init_19 rfl (lv_at hl 0 rfl) ?_
  refine lv_iload hx hb dX0_init_20 (lv_at hl 4 rfl) ?_
  refine va_putF (D := D) (ci := 4) (v := .int p3) (ty := .int) (C := RX0) (T := TX0) (N := 19) hx hb hts hiRX0 tyX0 tyX0_ok nmX0 hown hK hP hD hS 0 rfl rfl 3 (by decide) (hts (.fieldLink RX0 21 "Towerliftry$Car" "express" "I") (by decide +kernel)) (fun _ h9 => h9) rfl hin rfl (by decide +kernel) rfl rfl (Nat.le_of_ble_eq_true rfl) dX0_init_22 (fun H locs hP hD hS => ?_)
  have hP : va_P D vwCl [(ca, .inr (4, [.int p0, .int p1, .int p2, .int p3, .int 0, .int 0, .int 0, .int 0, .int 0, .int 0, .int 0, .int 0, .int 0, .int 0, .int 0, .int 0, .int 0, .int 0, .null]))] _ := hP
  have hD : va_D A [(ca, .inr (4, [.int p0, .int p1, .int p2, .int p3, .int 0, .int 0, .int 0, .int 0, .int 0, .int 0, .int 0, .int 0, .int 0, .int 0, .int 0, .int 0, .int 0, .int 0, .null]))] := hD
  refine lv_aload_n hx hb dX0_init_25 rfl (lv_at hl 0 rfl) ?_
  refine lv_iload hx hb dX0_init_26 (lv_at hl 5 rfl) ?_
  refine va_put (D := D) (ci := 4) (v := .int p4) (ty := .int) (C := RX0) (T := TX0) (N := 19) hx hb hts hiRX0 tyX0 tyX0_ok nmX0 hown hK hP hD hS 0 rfl rfl 6 (by decide) (hts (.fieldLink RX0 24 "Towerliftry$Car" "highest" "I") (by decide +kernel)) (fun _ h9 => h9) rfl (by decide +kernel) rfl rfl (Nat.le_of_ble_eq_true rfl) dX0_init_28 (fun H locs hP hD hS => ?_)
  have hP : va_P D vwCl [(ca, .inr (4, [.int p0, .int p1, .int p2, .int p3, .int 0, .int 0, .int p4, .int 0, .int 0, .int 0, .int 0, .int 0, .int 0, .int 0, .int 0, .int 0, .int 0, .int 0, .null]))] _ := hP
  have hD : va_D A [(ca, .inr (4, [.int p0, .int p1, .int p2, .int p3, .int 0, .int 0, .int p4, .int 0, .int 0, .int 0, .int 0, .int 0, .int 0, .int 0, .int 0, .int 0, .int 0, .int 0, .null]))] := hD
  refine lv_aload_n hx hb dX0_init_31 rfl (lv_at hl 0 rfl) ?_
  refine lv_iconst (v := (-1)) hx hb dX0_init_32 (by decide) ?_
  refine va_put (D := D) (ci := 4) (v := .int ((-1))) (ty := .int) (C := RX0) (T := TX0) (N := 19) hx hb hts hiRX0 tyX0 tyX0_ok nmX0 hown hK hP hD hS 0 rfl rfl 11 (by decide) (hts (.fieldLink RX0 27 "Towerliftry$Car" "parkedAt" "I") (by decide +kernel)) (fun _ h9 => h9) rfl (by decide +kernel) rfl rfl (Nat.le_of_ble_eq_true rfl) dX0_init_33 (fun H locs hP hD hS => ?_)
  have hP : va_P D vwCl [(ca, .inr (4, [.int p0, .int p1, .int p2, .int p3, .int 0, .int 0, .int p4, .int 0, .int 0, .int 0, .int 0, .int ((-1)), .int 0, .int 0, .int 0, .int 0, .int 0, .int 0, .null]))] _ := hP
  have hD : va_D A [(ca, .inr (4, [.int p0, .int p1, .int p2, .int p3, .int 0, .int 0, .int p4, .int 0, .int 0, .int 0, .int 0, .int ((-1)), .int 0, .int 0, .int 0, .int 0, .int 0, .int 0, .null]))] := hD
  refine lv_aload_n hx hb dX0_init_36 rfl (lv_at hl 0 rfl) ?_
  refine lv_iconst (v := (-1)) hx hb dX0_init_37 (by decide) ?_
  refine va_put (D := D) (ci := 4) (v := .int ((-1))) (ty := .int) (C := RX0) (T := TX0) (N := 19) hx hb hts hiRX0 tyX0 tyX0_ok nmX0 hown hK hP hD hS 0 rfl rfl 16 (by decide) (hts (.fieldLink RX0 30 "Towerliftry$Car" "lastEntry" "I") (by decide +kernel)) (fun _ h9 => h9) rfl (by decide +kernel) rfl rfl (Nat.le_of_ble_eq_true rfl) dX0_init_38 (fun H locs hP hD hS => ?_)
  have hP : va_P D vwCl [(ca, .inr (4, [.int p0, .int p1, .int p2, .int p3, .int 0, .int 0, .int p4, .int 0, .int 0, .int 0, .int 0, .int ((-1)), .int 0, .int 0, .int 0, .int 0, .int ((-1)), .int 0, .null]))] _ := hP
  have hD : va_D A [(ca, .inr (4, [.int p0, .int p1, .int p2, .int p3, .int 0, .int 0, .int p4, .int 0, .int 0, .int 0, .int 0, .int ((-1)), .int 0, .int 0, .int 0, .int 0, .int ((-1)), .int 0, .null]))] := hD
  refine lv_aload_n hx hb dX0_init_41 rfl (lv_at hl 0 rfl) ?_
  refine lv_iconst (v := 0) hx hb dX0_init_42 (by decide) ?_
  refine lv_iload hx hb dX0_init_43 (lv_at hl 5 rfl) ?_
  refine lv_iload hx hb dX0_init_45 (lv_at hl 4 rfl) ?_
  have hPc := hP.sub (ws' := []) [] rfl
  have hDc := hD.sub (ws' := []) [] (by decide) rfl
  have hKc := hK.sub (tys' := []) [] rfl
  have hFc := va_free (wc := []) hD hS hA [] rfl
  refine va_calli (va_runS (As := [.int 0, .int p4, .int p3]) (rest := [.ref ca]) ⟨hx, hb, hml, hown, hts⟩ (c_X0_servedBetween l hst em kw kb D 0 p4 p3 _) (va_cwS 3 hts gX0_init_X0_servedBetween rfl rfl rfl (by decide +kernel) ⟨(Nat.le_of_ble_eq_true rfl), (Nat.le_of_ble_eq_true rfl)⟩) (tw_preS hF hS hFc hPc hKc hDc) rfl rfl hl.1 rfl (lv_room (Nat.le_of_ble_eq_true rfl)) dX0_init_47 ⟨(Nat.le_of_ble_eq_true rfl), (Nat.le_of_ble_eq_true rfl)⟩) hS (fun q _ h => hFc q h) hFc (fun r u t H locs ht hvm hw hB hz1 hk1 hS => ?_)
  obtain ⟨rfl, rfl⟩ := hw
  obtain ⟨hP, hD, hK⟩ := tw_join (wr := [(ca, .inr (4, [.int p0, .int p1, .int p2, .int p3, .int 0, .int 0, .int p4, .int 0, .int 0, .int 0, .int 0, .int ((-1)), .int 0, .int 0, .int 0, .int 0, .int ((-1)), .int 0, .null]))]) hP hD hK [] [0] rfl rfl (by decide) (by decide) hk1 hFc ht hvm hB
  have hP : va_P D vwCl [(ca, .inr (4, [.int p0, .int p1, .int p2, .int p3, .int 0, .int 0, .int p4, .int 0, .int 0, .int 0, .int 0, .int ((-1)), .int 0, .int 0, .int 0, .int 0, .int ((-1)), .int 0, .null]))] _ := hP
  have hD : va_D A [(ca, .inr (4, [.int p0, .int p1, .int p2, .int p3, .int 0, .int 0, .int p4, .int 0, .int 0, .int 0, .int 0, .int ((-1)), .int 0, .int 0, .int 0, .int 0, .int ((-1)), .int 0, .null]))] := hD
  have hK : va_K D vwCl [] s := hK
  refine W.widen (k := 0) (n := 0) (Nat.le_refl _) (Nat.le_refl _) ?_
  refine W.eq (g2 := F0 m 50 ls [.int (((((1 : Int32) <<< ((p4 + (1 : Int32)) &&& 31)) - (1 : Int32)) &&& ((((1 : Int32) <<< (0 &&& 31)) - (1 : Int32)) ^^^ ((-1) : Int32))) &&& (((1 : Int32) <<< (0 &&& 31)) ||| ((((1 : Int32) <<< (p3 &&& 31)) - (1 : Int32)) ^^^ ((-1) : Int32)))), .ref ca]) rfl ?_
  refine va_put (D := D) (ci := 4) (v := .int (((((1 : Int32) <<< ((p4 + (1 : Int32)) &&& 31)) - (1 : Int32)) &&& ((((1 : Int32) <<< (0 &&& 31)) - (1 : Int32)) ^^^ ((-1) : Int32))) &&& (((1 : Int32) <<< (0 &&& 31)) ||| ((((1 : Int32) <<< (p3 &&& 31)) - (1 : Int32)) ^^^ ((-1) : Int32))))) (ty := .int) (C := RX0) (T := TX0) (N := 19) hx hb hts hiRX0 tyX0 tyX0_ok nmX0 hown hK hP hD hS 0 rfl rfl 7 (by decide) (hts (.fieldLink RX0 37 "Towerliftry$Car" "served" "I") (by decide +kernel)) (fun _ h9 => h9) rfl (by decide +kernel) rfl rfl (Nat.le_of_ble_eq_true rfl) dX0_init_50 (fun H locs hP hD hS => ?_)
  have hP : va_P D vwCl [(ca, .inr (4, [.int p0, .int p1, .int p2, .int p3, .int 0, .int 0, .int p4, .int (((((1 : Int32) <<< ((p4 + (1 : Int32)) &&& 31)) - (1 : Int32)) &&& ((((1 : Int32) <<< (0 &&& 31)) - (1 : Int32)) ^^^ ((-1) : Int32))) &&& (((1 : Int32) <<< (0 &&& 31)) ||| ((((1 : Int32) <<< (p3 &&& 31)) - (1 : Int32)) ^^^ ((-1) : Int32)))), .int 0, .int 0, .int 0, .int ((-1)), .int 0, .int 0, .int 0, .int 0, .int ((-1)), .int 0, .null]))] _ := hP
  have hD : va_D A [(ca, .inr (4, [.int p0, .int p1, .int p2, .int p3, .int 0, .int 0, .int p4, .int (((((1 : Int32) <<< ((p4 + (1 : Int32)) &&& 31)) - (1 : Int32)) &&& ((((1 : Int32) <<< (0 &&& 31)) - (1 : Int32)) ^^^ ((-1) : Int32))) &&& (((1 : Int32) <<< (0 &&& 31)) ||| ((((1 : Int32) <<< (p3 &&& 31)) - (1 : Int32)) ^^^ ((-1) : Int32)))), .int 0, .int 0, .int 0, .int ((-1)), .int 0, .int 0, .int 0, .int 0, .int ((-1)), .int 0, .null]))] := hD
  refine W.widen (k := 0) (n := 0) (Nat.le_of_ble_eq_true rfl) (Nat.le_of_ble_eq_true rfl) ?_
  have hP9 := hP.sub (ws' := [(ca, .inr (4, [.int p0, .int p1, .int p2, .int p3, .int 0, .int 0, .int p4, .int (((((1 : Int32) <<< ((p4 + (1 : Int32)) &&& 31)) - (1 : Int32)) &&& ((((1 : Int32) <<< (0 &&& 31)) - (1 : Int32)) ^^^ ((-1) : Int32))) &&& (((1 : Int32) <<< (0 &&& 31)) ||| ((((1 : Int32) <<< (p3 &&& 31)) - (1 : Int32)) ^^^ ((-1) : Int32)))), .int 0, .int 0, .int 0, .int ((-1)), .int 0, .int 0, .int 0, .int 0, .int ((-1)), .int 0, .null]))]) [0] rfl
  have hD9 := hD.sub (ws' := [(ca, .inr (4, [.int p0, .int p1, .int p2, .int p3, .int 0, .int 0, .int p4, .int (((((1 : Int32) <<< ((p4 + (1 : Int32)) &&& 31)) - (1 : Int32)) &&& ((((1 : Int32) <<< (0 &&& 31)) - (1 : Int32)) ^^^ ((-1) : Int32))) &&& (((1 : Int32) <<< (0 &&& 31)) ||| ((((1 : Int32) <<< (p3 &&& 31)) - (1 : Int32)) ^^^ ((-1) : Int32)))), .int 0, .int 0, .int 0, .int ((-1)), .int 0, .int 0, .int 0, .int 0, .int ((-1)), .int 0, .null]))]) [0] (by decide) rfl
  have hK9 := hK.sub (tys' := []) [] rfl
  exact W.vret hx hb hr (fun t ht hW => ⟨⟨([(ca, .inr (4, [.int p0, .int p1, .int p2, .int p3, .int 0, .int 0, .int p4, .int (((((1 : Int32) <<< ((p4 + (1 : Int32)) &&& 31)) - (1 : Int32)) &&& ((((1 : Int32) <<< (0 &&& 31)) - (1 : Int32)) ^^^ ((-1) : Int32))) &&& (((1 : Int32) <<< (0 &&& 31)) ||| ((((1 : Int32) <<< (p3 &&& 31)) - (1 : Int32)) ^^^ ((-1) : Int32)))), .int 0, .int 0, .int 0, .int ((-1)), .int 0, .int 0, .int 0, .int 0, .int ((-1)), .int 0, .null]))], []), rfl, rfl, by rw [ht]; exact hP9, va_K.moved hW.alike hK9, hD9⟩, hS.F ht⟩) hS.2.2 dX0_init_53
set_option maxHeartbeats 4000000 in
set_option maxRecDepth 100000 in
theorem c_X2_init (l : Launch) (hst : l.stackTraces = false) (em kw kb : Nat) (D : va_G) (pe : Nat) (p0 : Int32) (p1 : Int32) (p2 : Int32) (p3 : Int32) (sz : Nat) : Met l yX2_init wsX2_init ({ frames := 1, cells := 0, slots := 0, locals := 12 }) (va_Pc [.ref pe, .int p0, .int p1, .int p2, .int p3] (tw_Pre em kw kb D sz [(pe, .inr (6, [.int 0, .int 0, .int 0, .int 0, .int 0, .int 0, .int 0]))] [])) (va_Qv (fun (u : tw_U) => u = ([(pe, .inr (6, [.int p1, .int p2, .int p3, .int p0, .int 0, .int 0, .int 119]))], [])) (tw_B D (va_A [(pe, .inr (6, [.int 0, .int 0, .int 0, .int 0, .int 0, .int 0, .int 0]))] sz)) (va_A [(pe, .inr (6, [.int 0, .int 0, .int 0, .int 0, .int 0, .int 0, .int 0]))] sz)) 0 0 (va_A [(pe, .inr (6, [.int 0, .int 0, .int 0, .int 0, .int 0, .int 0, .int 0]))] sz) := by
  refine Met.ofW (cc := cX2_init) (maxL := 5) (ret := none) (by decide) rfl ?_
  intro p e s m args below meth c s₁ B hml hv
  obtain ⟨rfl, hsz, hP, hK, hD0, hF⟩ := hv
  have hx := B.exec
  have hb := B.bytes
  have hr := B.returns
  have hts := atoms_spec (ws := wsX2_init) B.pre
  have hown : s.vm.findClass RX2 = some m.cls := findClass_of_methodNamed B.named
  have hlocks := B.notSynchronized
  have hin : meth.name = "<init>" := (name_of_methodNamed B.named B.method).1
  have hiRX2 : ∀ w ∈ u_ws RX2 TX2 7, w ∈ wsX2_init := by decide +kernel
  subst hsz
  have hD := hD0.self (sz := s.heap.size)
  generalize hAe : va_A [(pe, .inr (6, [.int 0, .int 0, .int 0, .int 0, .int 0, .int 0, .int 0]))] s.heap.size = A at hD hF ⊢
  have hA : ∀ q : Nat, s.heap.size ≤ q → A q := fun q h => by rw [← hAe]; exact Or.inr h
  have hS : va_S A s.heap s.heap [] := va_S.rf
  have hP : va_P D vwCl [(pe, .inr (6, [.int 0, .int 0, .int 0, .int 0, .int 0, .int 0, .int 0]))] s.heap := hP
  have hl := lv_entry ([.ref pe, .int p0, .int p1, .int p2, .int p3]) (n := 5) (Nat.le_of_ble_eq_true rfl)
  rw [lg_entry_eq]
  generalize (lg_sl ([.ref pe, .int p0, .int p1, .int p2, .int p3]) ++ List.replicate (5 - (lg_sl ([.ref pe, .int p0, .int p1, .int p2, .int p3])).length) Slot.unset).toArray = ls at hl ⊢
  have hl : lv_has ls 5 [(0, .ref pe), (1, .int p0), (2, .int p1), (3, .int p2), (4, .int p3)] := hl
  refine lv_aload_n hx hb dX2_init_0 rfl (lv_at hl 0 rfl) ?_
  refine W.objInit hx hb hown (hts (.methodLink RX2 1 objectInit) (by decide +kernel)) (hts (.instanceMethod objectInit) (by decide +kernel)) (hts (.code objectInit ⟨#[0xb1]⟩ 1 none) (by decide +kernel)) rfl (by rw [hml]; exact hl.1) rfl dX2_init_1 (Nat.le_of_ble_eq_true rfl) (Nat.le_of_ble_eq_true rfl) ?_
  refine W.eq (g2 := F0 m 4 ls []) rfl ?_
  refine lv_aload_n hx hb dX2_init_4 rfl (lv_at hl 0 rfl) ?_
  refine lv_iload_n hx hb dX2_init_5 rfl (lv_at hl 1 rfl) ?_
  refine va_put (D := D) (ci := 6) (v := .int p0) (ty := .int) (C := RX2) (T := TX2) (N := 7) hx hb hts hiRX2 tyX2 tyX2_ok nmX2 hown hK hP hD hS 0 rfl rfl 3 (by decide) (hts (.fieldLink RX2 7 "Towerliftry$Person" "floor" "I") (by decide +kernel)) (fun _ h9 => h9) rfl (by decide +kernel) rfl rfl (Nat.le_of_ble_eq_true rfl) dX2_init_6 (fun H locs hP hD hS => ?_)
  have hP : va_P D vwCl [(pe, .inr (6, [.int 0, .int 0, .int 0, .int p0, .int 0, .int 0, .int 0]))] _ := hP
  have hD : va_D A [(pe, .inr (6, [.int 0, .int 0, .int 0, .int p0, .int 0, .int 0, .int 0]))] := hD
  refine lv_aload_n hx hb dX2_init_9 rfl (lv_at hl 0 rfl) ?_
  refine lv_iload_n hx hb dX2_init_10 rfl (lv_at hl 2 rfl) ?_
  refine va_putF (D := D) (ci := 6) (v := .int p1) (ty := .int) (C := RX2) (T := TX2) (N := 7) hx hb hts hiRX2 tyX2 tyX2_ok nmX2 hown hK hP hD hS 0 rfl rfl 0 (by decide) (hts (.fieldLink RX2 13 "Towerliftry$Person" "to" "I") (by decide +kernel)) (fun _ h9 => h9) rfl hin rfl (by decide +kernel) rfl rfl (Nat.le_of_ble_eq_true rfl) dX2_init_11 (fun H locs hP hD hS => ?_)
  have hP : va_P D vwCl [(pe, .inr (6, [.int p1, .int 0, .int 0, .int p0, .int 0, .int 0, .int 0]))] _ := hP
  have hD : va_D A [(pe, .inr (6, [.int p1, .int 0, .int 0, .int p0, .int 0, .int 0, .int 0]))] := hD
  refine lv_aload_n hx hb dX2_init_14 rfl (lv_at hl 0 rfl) ?_
  refine lv_iload_n hx hb dX2_init_15 rfl (lv_at hl 3 rfl) ?_
  refine va_putF (D := D) (ci := 6) (v := .int p2) (ty := .int) (C := RX2) (T := TX2) (N := 7) hx hb hts hiRX2 tyX2 tyX2_ok nmX2 hown hK hP hD hS 0 rfl rfl 1 (by decide) (hts (.fieldLink RX2 16 "Towerliftry$Person" "weight" "I") (by decide +kernel)) (fun _ h9 => h9) rfl hin rfl (by decide +kernel) rfl rfl (Nat.le_of_ble_eq_true rfl) dX2_init_16 (fun H locs hP hD hS => ?_)
  have hP : va_P D vwCl [(pe, .inr (6, [.int p1, .int p2, .int 0, .int p0, .int 0, .int 0, .int 0]))] _ := hP
  have hD : va_D A [(pe, .inr (6, [.int p1, .int p2, .int 0, .int p0, .int 0, .int 0, .int 0]))] := hD
  refine lv_aload_n hx hb dX2_init_19 rfl (lv_at hl 0 rfl) ?_
  refine lv_iload hx hb dX2_init_20 (lv_at hl 4 rfl) ?_
  refine va_putF (D := D) (ci := 6) (v := .int p3) (ty := .int) (C := RX2) (T := TX2) (N := 7) hx hb hts hiRX2 tyX2 tyX2_ok nmX2 hown hK hP hD hS 0 rfl rfl 2 (by decide) (hts (.fieldLink RX2 19 "Towerliftry$Person" "patience" "I") (by decide +kernel)) (fun _ h9 => h9) rfl hin rfl (by decide +kernel) rfl rfl (Nat.le_of_ble_eq_true rfl) dX2_init_22 (fun H locs hP hD hS => ?_)
  have hP : va_P D vwCl [(pe, .inr (6, [.int p1, .int p2, .int p3, .int p0, .int 0, .int 0, .int 0]))] _ := hP
  have hD : va_D A [(pe, .inr (6, [.int p1, .int p2, .int p3, .int p0, .int 0, .int 0, .int 0]))] := hD
  refine lv_aload_n hx hb dX2_init_25 rfl (lv_at hl 0 rfl) ?_
  refine lv_bipush (v := 119) hx hb dX2_init_26 (by decide) ?_
  refine va_put (D := D) (ci := 6) (v := .int 119) (ty := .char) (C := RX2) (T := TX2) (N := 7) hx hb hts hiRX2 tyX2 tyX2_ok nmX2 hown hK hP hD hS 0 rfl rfl 6 (by decide) (hts (.fieldLink RX2 22 "Towerliftry$Person" "state" "C") (by decide +kernel)) (fun _ h9 => h9) rfl (by decide +kernel) (by decide) (by decide) (Nat.le_of_ble_eq_true rfl) dX2_init_28 (fun H locs hP hD hS => ?_)
  have hP : va_P D vwCl [(pe, .inr (6, [.int p1, .int p2, .int p3, .int p0, .int 0, .int 0, .int 119]))] _ := hP
  have hD : va_D A [(pe, .inr (6, [.int p1, .int p2, .int p3, .int p0, .int 0, .int 0, .int 119]))] := hD
  refine W.widen (k := 0) (n := 0) (Nat.le_of_ble_eq_true rfl) (Nat.le_of_ble_eq_true rfl) ?_
  have hP9 := hP.sub (ws' := [(pe, .inr (6, [.int p1, .int p2, .int p3, .int p0, .int 0, .int 0, .int 119]))]) [0] rfl
  have hD9 := hD.sub (ws' := [(pe, .inr (6, [.int p1, .int p2, .int p3, .int p0, .int 0, .int 0, .int 119]))]) [0] (by decide) rfl
  have hK9 := hK.sub (tys' := []) [] rfl
  exact W.vret hx hb hr (fun t ht hW => ⟨⟨([(pe, .inr (6, [.int p1, .int p2, .int p3, .int p0, .int 0, .int 0, .int 119]))], []), rfl, rfl, by rw [ht]; exact hP9, va_K.moved hW.alike hK9, hD9⟩, hS.F ht⟩) hS.2.2 dX2_init_31
set_option maxHeartbeats 4000000 in
set_option maxRecDepth 100000 in
theorem c_X3_noteWaiting (l : Launch) (hst : l.stackTraces = false) (em kw kb : Nat) (D : va_G) (x : Nat) (pe : Nat) (c1 : Nat) (ps1 : Nat) (lg : Nat) (f0 : Int32) (f1 : Int32) (f2 : Int32) (f3 : Int32) (f4 : Int32) (f5 : Int32) (f6 : Int32) (sz : Nat) : Met l yX3_noteWaiting wsX3_noteWaiting ({ frames := 1, cells := 0, slots := 0, locals := 20 }) (va_Pc [.ref x, .ref pe] (tw_Pre em kw kb D sz [(x, .inr (7, [.ref c1, .ref ps1, .ref lg, .int 9, .int 99, .int 0, .int 0, .int 0, .int ((-1)), .int 0, .int 0, .long 0])), (pe, .inr (6, [.int f0, .int f1, .int f2, .int f3, .int f4, .int f5, .int f6]))] [])) (va_Qv (fun (u : tw_U) => ((f0 ≤ f3) ∧ u = ([(x, .inr (7, [.ref c1, .ref ps1, .ref lg, .int 9, .int 99, .int 0, .int 0, .int ((0 : Int32) ||| ((1 : Int32) <<< (f3 &&& 31))), .int ((-1)), .int 0, .int 0, .long 0]))], [])) ∨ ((¬ f0 ≤ f3) ∧ u = ([(x, .inr (7, [.ref c1, .ref ps1, .ref lg, .int 9, .int 99, .int 0, .int ((0 : Int32) ||| ((1 : Int32) <<< (f3 &&& 31))), .int 0, .int ((-1)), .int 0, .int 0, .long 0]))], []))) (tw_B D (va_A [(x, .inr (7, [.ref c1, .ref ps1, .ref lg, .int 9, .int 99, .int 0, .int 0, .int 0, .int ((-1)), .int 0, .int 0, .long 0])), (pe, .inr (6, [.int f0, .int f1, .int f2, .int f3, .int f4, .int f5, .int f6]))] sz)) (va_A [(x, .inr (7, [.ref c1, .ref ps1, .ref lg, .int 9, .int 99, .int 0, .int 0, .int 0, .int ((-1)), .int 0, .int 0, .long 0])), (pe, .inr (6, [.int f0, .int f1, .int f2, .int f3, .int f4, .int f5, .int f6]))] sz)) 0 0 (va_A [(x, .inr (7, [.ref c1, .ref ps1, .ref lg, .int 9, .int 99, .int 0, .int 0, .int 0, .int ((-1)), .int 0, .int 0, .long 0])), (pe, .inr (6, [.int f0, .int f1, .int f2, .int f3, .int f4, .int f5, .int f6]))] sz) := by
  refine Met.ofW (cc := cX3_noteWaiting) (maxL := 2) (ret := none) (by decide) rfl ?_
  intro p e s m args below meth c s₁ B hml hv
  obtain ⟨rfl, hsz, hP, hK, hD0, hF⟩ := hv
  have hx := B.exec
  have hb := B.bytes
  have hr := B.returns
  have hts := atoms_spec (ws := wsX3_noteWaiting) B.pre
  have hown : s.vm.findClass RX3 = some m.cls := findClass_of_methodNamed B.named
  have hlocks := B.notSynchronized
  have hiRX2 : ∀ w ∈ u_ws RX2 TX2 7, w ∈ wsX3_noteWaiting := by decide +kernel
  have hiRX3 : ∀ w ∈ u_ws RX3 TX3 12, w ∈ wsX3_noteWaiting := by decide +kernel
  subst hsz
  have hD := hD0.self (sz := s.heap.size)
  generalize hAe : va_A [(x, .inr (7, [.ref c1, .ref ps1, .ref lg, .int 9, .int 99, .int 0, .int 0, .int 0, .int ((-1)), .int 0, .int 0, .long 0])), (pe, .inr (6, [.int f0, .int f1, .int f2, .int f3, .int f4, .int f5, .int f6]))] s.heap.size = A at hD hF ⊢
  have hA : ∀ q : Nat, s.heap.size ≤ q → A q := fun q h => by rw [← hAe]; exact Or.inr h
  have hS : va_S A s.heap s.heap [] := va_S.rf
  have hP : va_P D vwCl [(x, .inr (7, [.ref c1, .ref ps1, .ref lg, .int 9, .int 99, .int 0, .int 0, .int 0, .int ((-1)), .int 0, .int 0, .long 0])), (pe, .inr (6, [.int f0, .int f1, .int f2, .int f3, .int f4, .int f5, .int f6]))] s.heap := hP
  have hl := lv_entry ([.ref x, .ref pe]) (n := 2) (Nat.le_of_ble_eq_true rfl)
  rw [lg_entry_eq]
  generalize (lg_sl ([.ref x, .ref pe]) ++ List.replicate (2 - (lg_sl ([.ref x, .ref pe])).length) Slot.unset).toArray = ls at hl ⊢
  have hl : lv_has ls 2 [(0, .ref x), (1, .ref pe)] := hl
  refine lv_aload_n hx hb dX3_noteWaiting_0 rfl (lv_at hl 1 rfl) ?_
  refine va_get (D := D) (ci := 6) (v := .int f0) (C := RX2) (T := TX2) (N := 7) hx hb hts hiRX2 hown hK hP 1 rfl rfl 0 (by decide) (hts (.fieldLink RX3 297 "Towerliftry$Person" "to" "I") (by decide +kernel)) (fun _ h9 => h9) rfl dX3_noteWaiting_1 ?_
  refine lv_aload_n hx hb dX3_noteWaiting_4 rfl (lv_at hl 1 rfl) ?_
  refine va_get (D := D) (ci := 6) (v := .int f3) (C := RX2) (T := TX2) (N := 7) hx hb hts hiRX2 hown hK hP 1 rfl rfl 3 (by decide) (hts (.fieldLink RX3 139 "Towerliftry$Person" "floor" "I") (by decide +kernel)) (fun _ h9 => h9) rfl dX3_noteWaiting_5 ?_
  refine lv_icmp_le (tgt := 30) hx hb dX3_noteWaiting_8 (by decide) (fun c_1 => ?_) (fun c_1 => ?_)
  · refine lv_aload_n hx hb dX3_noteWaiting_30 rfl (lv_at hl 0 rfl) ?_
    refine lv_dup hx hb dX3_noteWaiting_31 rfl ?_
    refine va_get (D := D) (ci := 7) (v := .int 0) (C := RX3) (T := TX3) (N := 12) hx hb hts hiRX3 hown hK hP 0 rfl rfl 7 (by decide) (hts (.fieldLink RX3 288 "Towerliftry" "downWaiting" "I") (by decide +kernel)) (fun _ h9 => h9) rfl dX3_noteWaiting_32 ?_
    refine lv_aload_n hx hb dX3_noteWaiting_35 rfl (lv_at hl 1 rfl) ?_
    refine va_get (D := D) (ci := 6) (v := .int f3) (C := RX2) (T := TX2) (N := 7) hx hb hts hiRX2 hown hK hP 1 rfl rfl 3 (by decide) (hts (.fieldLink RX3 139 "Towerliftry$Person" "floor" "I") (by decide +kernel)) (fun _ h9 => h9) rfl dX3_noteWaiting_36 ?_
    have hPc := hP.sub (ws' := []) [] rfl
    have hDc := hD.sub (ws' := []) [] (by decide) rfl
    have hKc := hK.sub (tys' := []) [] rfl
    have hFc := va_free (wc := []) hD hS hA [] rfl
    refine va_calli (va_runS (As := [.int f3]) (rest := [.int 0, .ref x]) ⟨hx, hb, hml, hown, hts⟩ (c_X3_bit l hst em kw kb D f3 _) (va_cwS 1 hts gX3_noteWaiting_X3_bit rfl rfl rfl (by decide +kernel) ⟨(Nat.le_of_ble_eq_true rfl), (Nat.le_of_ble_eq_true rfl)⟩) (tw_preS hF hS hFc hPc hKc hDc) rfl rfl hl.1 rfl (lv_room (Nat.le_of_ble_eq_true rfl)) dX3_noteWaiting_39 ⟨(Nat.le_of_ble_eq_true rfl), (Nat.le_of_ble_eq_true rfl)⟩) hS (fun q _ h => hFc q h) hFc (fun r u t H locs ht hvm hw hB hz1 hk1 hS => ?_)
    obtain ⟨rfl, rfl⟩ := hw
    obtain ⟨hP, hD, hK⟩ := tw_join (wr := [(x, .inr (7, [.ref c1, .ref ps1, .ref lg, .int 9, .int 99, .int 0, .int 0, .int 0, .int ((-1)), .int 0, .int 0, .long 0])), (pe, .inr (6, [.int f0, .int f1, .int f2, .int f3, .int f4, .int f5, .int f6]))]) hP hD hK [] [0, 1] rfl rfl (by decide) (by decide) hk1 hFc ht hvm hB
    have hP : va_P D vwCl [(x, .inr (7, [.ref c1, .ref ps1, .ref lg, .int 9, .int 99, .int 0, .int 0, .int 0, .int ((-1)), .int 0, .int 0, .long 0])), (pe, .inr (6, [.int f0, .int f1, .int f2, .int f3, .int f4, .int f5, .int f6]))] _ := hP
    have hD : va_D A [(x, .inr (7, [.ref c1, .ref ps1, .ref lg, .int 9, .int 99, .int 0, .int 0, .int 0, .int ((-1)), .int 0, .int 0, .long 0])), (pe, .inr (6, [.int f0, .int f1, .int f2, .int f3, .int f4, .int f5, .int f6]))] := hD
    have hK : va_K D vwCl [] s := hK
    refine W.widen (k := 0) (n := 0) (Nat.le_refl _) (Nat.le_refl _) ?_
    refine W.eq (g2 := F0 m 42 ls [.int ((1 : Int32) <<< (f3 &&& 31)), .int 0, .ref x]) rfl ?_
    refine lv_ior hx hb dX3_noteWaiting_42 ?_
    refine va_put (D := D) (ci := 7) (v := .int ((0 : Int32) ||| ((1 : Int32) <<< (f3 &&& 31)))) (ty := .int) (C := RX3) (T := TX3) (N := 12) hx hb hts hiRX3 tyX3 tyX3_ok nmX3 hown hK hP hD hS 0 rfl rfl 7 (by decide) (hts (.fieldLink RX3 288 "Towerliftry" "downWaiting" "I") (by decide +kernel)) (fun _ h9 => h9) rfl (by decide +kernel) rfl rfl (Nat.le_of_ble_eq_true rfl) dX3_noteWaiting_43 (fun H locs hP hD hS => ?_)
    have hP : va_P D vwCl [(x, .inr (7, [.ref c1, .ref ps1, .ref lg, .int 9, .int 99, .int 0, .int 0, .int ((0 : Int32) ||| ((1 : Int32) <<< (f3 &&& 31))), .int ((-1)), .int 0, .int 0, .long 0])), (pe, .inr (6, [.int f0, .int f1, .int f2, .int f3, .int f4, .int f5, .int f6]))] _ := hP
    have hD : va_D A [(x, .inr (7, [.ref c1, .ref ps1, .ref lg, .int 9, .int 99, .int 0, .int 0, .int ((0 : Int32) ||| ((1 : Int32) <<< (f3 &&& 31))), .int ((-1)), .int 0, .int 0, .long 0])), (pe, .inr (6, [.int f0, .int f1, .int f2, .int f3, .int f4, .int f5, .int f6]))] := hD
    refine W.widen (k := 0) (n := 0) (Nat.le_of_ble_eq_true rfl) (Nat.le_of_ble_eq_true rfl) ?_
    have hP9 := hP.sub (ws' := [(x, .inr (7, [.ref c1, .ref ps1, .ref lg, .int 9, .int 99, .int 0, .int 0, .int ((0 : Int32) ||| ((1 : Int32) <<< (f3 &&& 31))), .int ((-1)), .int 0, .int 0, .long 0]))]) [0] rfl
    have hD9 := hD.sub (ws' := [(x, .inr (7, [.ref c1, .ref ps1, .ref lg, .int 9, .int 99, .int 0, .int 0, .int ((0 : Int32) ||| ((1 : Int32) <<< (f3 &&& 31))), .int ((-1)), .int 0, .int 0, .long 0]))]) [0] (by decide) rfl
    have hK9 := hK.sub (tys' := []) [] rfl
    exact W.vret hx hb hr (fun t ht hW => ⟨⟨([(x, .inr (7, [.ref c1, .ref ps1, .ref lg, .int 9, .int 99, .int 0, .int 0, .int ((0 : Int32) ||| ((1 : Int32) <<< (f3 &&& 31))), .int ((-1)), .int 0, .int 0, .long 0]))], []), rfl, (Or.inl ⟨c_1, rfl⟩), by rw [ht]; exact hP9, va_K.moved hW.alike hK9, hD9⟩, hS.F ht⟩) hS.2.2 dX3_noteWaiting_46
  · refine lv_aload_n hx hb dX3_noteWaiting_11 rfl (lv_at hl 0 rfl) ?_
    refine lv_dup hx hb dX3_noteWaiting_12 rfl ?_
    refine va_get (D := D) (ci := 7) (v := .int 0) (C := RX3) (T := TX3) (N := 12) hx hb hts hiRX3 hown hK hP 0 rfl rfl 6 (by decide) (hts (.fieldLink RX3 285 "Towerliftry" "upWaiting" "I") (by decide +kernel)) (fun _ h9 => h9) rfl dX3_noteWaiting_13 ?_
    refine lv_aload_n hx hb dX3_noteWaiting_16 rfl (lv_at hl 1 rfl) ?_
    refine va_get (D := D) (ci := 6) (v := .int f3) (C := RX2) (T := TX2) (N := 7) hx hb hts hiRX2 hown hK hP 1 rfl rfl 3 (by decide) (hts (.fieldLink RX3 139 "Towerliftry$Person" "floor" "I") (by decide +kernel)) (fun _ h9 => h9) rfl dX3_noteWaiting_17 ?_
    have hPc := hP.sub (ws' := []) [] rfl
    have hDc := hD.sub (ws' := []) [] (by decide) rfl
    have hKc := hK.sub (tys' := []) [] rfl
    have hFc := va_free (wc := []) hD hS hA [] rfl
    refine va_calli (va_runS (As := [.int f3]) (rest := [.int 0, .ref x]) ⟨hx, hb, hml, hown, hts⟩ (c_X3_bit l hst em kw kb D f3 _) (va_cwS 1 hts gX3_noteWaiting_X3_bit rfl rfl rfl (by decide +kernel) ⟨(Nat.le_of_ble_eq_true rfl), (Nat.le_of_ble_eq_true rfl)⟩) (tw_preS hF hS hFc hPc hKc hDc) rfl rfl hl.1 rfl (lv_room (Nat.le_of_ble_eq_true rfl)) dX3_noteWaiting_20 ⟨(Nat.le_of_ble_eq_true rfl), (Nat.le_of_ble_eq_true rfl)⟩) hS (fun q _ h => hFc q h) hFc (fun r u t H locs ht hvm hw hB hz1 hk1 hS => ?_)
    obtain ⟨rfl, rfl⟩ := hw
    obtain ⟨hP, hD, hK⟩ := tw_join (wr := [(x, .inr (7, [.ref c1, .ref ps1, .ref lg, .int 9, .int 99, .int 0, .int 0, .int 0, .int ((-1)), .int 0, .int 0, .long 0])), (pe, .inr (6, [.int f0, .int f1, .int f2, .int f3, .int f4, .int f5, .int f6]))]) hP hD hK [] [0, 1] rfl rfl (by decide) (by decide) hk1 hFc ht hvm hB
    have hP : va_P D vwCl [(x, .inr (7, [.ref c1, .ref ps1, .ref lg, .int 9, .int 99, .int 0, .int 0, .int 0, .int ((-1)), .int 0, .int 0, .long 0])), (pe, .inr (6, [.int f0, .int f1, .int f2, .int f3, .int f4, .int f5, .int f6]))] _ := hP
    have hD : va_D A [(x, .inr (7, [.ref c1, .ref ps1, .ref lg, .int 9, .int 99, .int 0, .int 0, .int 0, .int ((-1)), .int 0, .int 0, .long 0])), (pe, .inr (6, [.int f0, .int f1, .int f2, .int f3, .int f4, .int f5, .int f6]))] := hD
    have hK : va_K D vwCl [] s := hK
    refine W.widen (k := 0) (n := 0) (Nat.le_refl _) (Nat.le_refl _) ?_
    refine W.eq (g2 := F0 m 23 ls [.int ((1 : Int32) <<< (f3 &&& 31)), .int 0, .ref x]) rfl ?_
    refine lv_ior hx hb dX3_noteWaiting_23 ?_
    refine va_put (D := D) (ci := 7) (v := .int ((0 : Int32) ||| ((1 : Int32) <<< (f3 &&& 31)))) (ty := .int) (C := RX3) (T := TX3) (N := 12) hx hb hts hiRX3 tyX3 tyX3_ok nmX3 hown hK hP hD hS 0 rfl rfl 6 (by decide) (hts (.fieldLink RX3 285 "Towerliftry" "upWaiting" "I") (by decide +kernel)) (fun _ h9 => h9) rfl (by decide +kernel) rfl rfl (Nat.le_of_ble_eq_true rfl) dX3_noteWaiting_24 (fun H locs hP hD hS => ?_)
    have hP : va_P D vwCl [(x, .inr (7, [.ref c1, .ref ps1, .ref lg, .int 9, .int 99, .int 0, .int ((0 : Int32) ||| ((1 : Int32) <<< (f3 &&& 31))), .int 0, .int ((-1)), .int 0, .int 0, .long 0])), (pe, .inr (6, [.int f0, .int f1, .int f2, .int f3, .int f4, .int f5, .int f6]))] _ := hP
    have hD : va_D A [(x, .inr (7, [.ref c1, .ref ps1, .ref lg, .int 9, .int 99, .int 0, .int ((0 : Int32) ||| ((1 : Int32) <<< (f3 &&& 31))), .int 0, .int ((-1)), .int 0, .int 0, .long 0])), (pe, .inr (6, [.int f0, .int f1, .int f2, .int f3, .int f4, .int f5, .int f6]))] := hD
    refine lv_goto (tgt := 46) hx hb dX3_noteWaiting_27 (by decide) ?_
    refine W.widen (k := 0) (n := 0) (Nat.le_of_ble_eq_true rfl) (Nat.le_of_ble_eq_true rfl) ?_
    have hP9 := hP.sub (ws' := [(x, .inr (7, [.ref c1, .ref ps1, .ref lg, .int 9, .int 99, .int 0, .int ((0 : Int32) ||| ((1 : Int32) <<< (f3 &&& 31))), .int 0, .int ((-1)), .int 0, .int 0, .long 0]))]) [0] rfl
    have hD9 := hD.sub (ws' := [(x, .inr (7, [.ref c1, .ref ps1, .ref lg, .int 9, .int 99, .int 0, .int ((0 : Int32) ||| ((1 : Int32) <<< (f3 &&& 31))), .int 0, .int ((-1)), .int 0, .int 0, .long 0]))]) [0] (by decide) rfl
    have hK9 := hK.sub (tys' := []) [] rfl
    exact W.vret hx hb hr (fun t ht hW => ⟨⟨([(x, .inr (7, [.ref c1, .ref ps1, .ref lg, .int 9, .int 99, .int 0, .int ((0 : Int32) ||| ((1 : Int32) <<< (f3 &&& 31))), .int 0, .int ((-1)), .int 0, .int 0, .long 0]))], []), rfl, (Or.inr (⟨c_1, rfl⟩)), by rw [ht]; exact hP9, va_K.moved hW.alike hK9, hD9⟩, hS.F ht⟩) hS.2.2 dX3_noteWaiting_46
