theorem dX3_promised_0 : decode cX3_promised 0 = .ok (.aload_n 0, 1) := by decide +kernel
theorem dX3_promised_1 : decode cX3_promised 1 = .ok (.iload_n 1, 1) := by decide +kernel
set_option maxRecDepth 20000 in
theorem ggX3_promised_X3_checkFloor : GoodIn wsX3_promised wsX3_checkFloor := goodIn_ca (goodIn_r _ [9, 10, 11, 12, 13, 14, 8, 15, 16, 50, 51, 52, 53, 54, 55, 56, 57, 58, 59, 60, 61] (by decide +kernel) (by decide +kernel)) (goodIn_sub (fun _ h => List.mem_cons_of_mem _ (List.mem_append_right _ h)) (by decide +kernel))
set_option maxRecDepth 20000 in
theorem gX3_promised_X3_checkFloor : GoodIn wsX3_promised (wsV RX3 122 RX3 yX3_checkFloor wsX3_checkFloor) := goodIn_app (goodIn_of _ (by decide +kernel)) ggX3_promised_X3_checkFloor
theorem dX3_promised_2 : decode cX3_promised 2 = .ok (.invokevirtual 122, 3) := by decide +kernel
theorem dX3_promised_5 : decode cX3_promised 5 = .ok (.iconst 0, 1) := by decide +kernel
theorem dX3_promised_6 : decode cX3_promised 6 = .ok (.istore_n 3, 1) := by decide +kernel
theorem dX3_promised_7 : decode cX3_promised 7 = .ok (.iload_n 3, 1) := by decide +kernel
theorem dX3_promised_8 : decode cX3_promised 8 = .ok (.aload_n 0, 1) := by decide +kernel
theorem dX3_promised_9 : decode cX3_promised 9 = .ok (.getfield 10, 3) := by decide +kernel
set_option maxRecDepth 20000 in
theorem ggX3_promised_Jx4a65c_size_8abf5 : GoodIn wsX3_promised wsJx4a65c_size_8abf5 := goodIn_r _ [21, 22, 62, 63, 64] (by decide +kernel) (by decide +kernel)
set_option maxRecDepth 20000 in
theorem gX3_promised_Jx4a65c_size_8abf5 : GoodIn wsX3_promised (wsV RX3 75 RJx4a65c yJx4a65c_size_8abf5 wsJx4a65c_size_8abf5) := goodIn_app (goodIn_of _ (by decide +kernel)) ggX3_promised_Jx4a65c_size_8abf5
theorem dX3_promised_12 : decode cX3_promised 12 = .ok (.invokevirtual 75, 3) := by decide +kernel
theorem dX3_promised_15 : decode cX3_promised 15 = .ok (.if_icmp .ge 33, 3) := by decide +kernel
theorem dX3_promised_48 : decode cX3_promised 48 = .ok (.new 187, 3) := by decide +kernel
theorem dX3_promised_51 : decode cX3_promised 51 = .ok (.dup, 1) := by decide +kernel
theorem dX3_promised_52 : decode cX3_promised 52 = .ok (.ldc 189, 2) := by decide +kernel
theorem dX3_promised_54 : decode cX3_promised 54 = .ok (.invokespecial 191, 3) := by decide +kernel
theorem dX3_promised_57 : decode cX3_promised 57 = .ok (.athrow, 1) := by decide +kernel
theorem dX3_fire_0 : decode cX3_fire 0 = .ok (.aload_n 0, 1) := by decide +kernel
theorem dX3_fire_1 : decode cX3_fire 1 = .ok (.iload_n 1, 1) := by decide +kernel
set_option maxRecDepth 20000 in
theorem ggX3_fire_X3_checkFloor : GoodIn wsX3_fire wsX3_checkFloor := goodIn_ca (goodIn_r _ [9, 10, 11, 12, 13, 14, 8, 15, 16, 58, 59, 60, 61, 62, 63, 64, 65, 66, 67, 68, 69] (by decide +kernel) (by decide +kernel)) (goodIn_sub (fun _ h => List.mem_cons_of_mem _ (List.mem_append_right _ h)) (by decide +kernel))
set_option maxRecDepth 20000 in
theorem gX3_fire_X3_checkFloor : GoodIn wsX3_fire (wsV RX3 122 RX3 yX3_checkFloor wsX3_checkFloor) := goodIn_app (goodIn_of _ (by decide +kernel)) ggX3_fire_X3_checkFloor
theorem dX3_fire_2 : decode cX3_fire 2 = .ok (.invokevirtual 122, 3) := by decide +kernel
theorem dX3_fire_5 : decode cX3_fire 5 = .ok (.iconst 0, 1) := by decide +kernel
theorem dX3_fire_6 : decode cX3_fire 6 = .ok (.istore_n 2, 1) := by decide +kernel
theorem dX3_fire_7 : decode cX3_fire 7 = .ok (.iconst 0, 1) := by decide +kernel
theorem dX3_fire_8 : decode cX3_fire 8 = .ok (.istore_n 3, 1) := by decide +kernel
theorem dX3_fire_9 : decode cX3_fire 9 = .ok (.iload_n 3, 1) := by decide +kernel
theorem dX3_fire_10 : decode cX3_fire 10 = .ok (.aload_n 0, 1) := by decide +kernel
theorem dX3_fire_11 : decode cX3_fire 11 = .ok (.getfield 10, 3) := by decide +kernel
set_option maxRecDepth 20000 in
theorem ggX3_fire_Jx4a65c_size_8abf5 : GoodIn wsX3_fire wsJx4a65c_size_8abf5 := goodIn_r _ [21, 22, 89, 90, 91] (by decide +kernel) (by decide +kernel)
set_option maxRecDepth 20000 in
theorem gX3_fire_Jx4a65c_size_8abf5 : GoodIn wsX3_fire (wsV RX3 75 RJx4a65c yJx4a65c_size_8abf5 wsJx4a65c_size_8abf5) := goodIn_app (goodIn_of _ (by decide +kernel)) ggX3_fire_Jx4a65c_size_8abf5
theorem dX3_fire_14 : decode cX3_fire 14 = .ok (.invokevirtual 75, 3) := by decide +kernel
theorem dX3_fire_17 : decode cX3_fire 17 = .ok (.if_icmp .ge 41, 3) := by decide +kernel
theorem dX3_fire_58 : decode cX3_fire 58 = .ok (.aload_n 0, 1) := by decide +kernel
theorem dX3_fire_59 : decode cX3_fire 59 = .ok (.iload_n 1, 1) := by decide +kernel
theorem dX3_fire_60 : decode cX3_fire 60 = .ok (.putfield 34, 3) := by decide +kernel
theorem dX3_fire_63 : decode cX3_fire 63 = .ok (.iload_n 2, 1) := by decide +kernel
theorem dX3_fire_64 : decode cX3_fire 64 = .ok (.ireturn, 1) := by decide +kernel
theorem dX3_clear_0 : decode cX3_clear 0 = .ok (.aload_n 0, 1) := by decide +kernel
theorem dX3_clear_1 : decode cX3_clear 1 = .ok (.getfield 34, 3) := by decide +kernel
theorem dX3_clear_4 : decode cX3_clear 4 = .ok (.iconst (-1), 1) := by decide +kernel
theorem dX3_clear_5 : decode cX3_clear 5 = .ok (.if_icmp .ne 5, 3) := by decide +kernel
theorem dX3_clear_8 : decode cX3_clear 8 = .ok (.iconst 0, 1) := by decide +kernel
theorem dX3_clear_9 : decode cX3_clear 9 = .ok (.ireturn, 1) := by decide +kernel
theorem dX3_quake_0 : decode cX3_quake 0 = .ok (.iload_n 1, 1) := by decide +kernel
theorem dX3_quake_1 : decode cX3_quake 1 = .ok (.ifCond .lt 9, 3) := by decide +kernel
theorem dX3_quake_10 : decode cX3_quake 10 = .ok (.new 37, 3) := by decide +kernel
theorem dX3_quake_13 : decode cX3_quake 13 = .ok (.dup, 1) := by decide +kernel
theorem dX3_quake_14 : decode cX3_quake 14 = .ok (.ldc 212, 2) := by decide +kernel
theorem dX3_quake_16 : decode cX3_quake 16 = .ok (.invokespecial 41, 3) := by decide +kernel
theorem dX3_quake_19 : decode cX3_quake 19 = .ok (.athrow, 1) := by decide +kernel
theorem dX3_quake_4 : decode cX3_quake 4 = .ok (.iload_n 1, 1) := by decide +kernel
theorem dX3_quake_5 : decode cX3_quake 5 = .ok (.bipush 99, 2) := by decide +kernel
theorem dX3_quake_7 : decode cX3_quake 7 = .ok (.if_icmp .le 13, 3) := by decide +kernel
theorem dX3_quake_20 : decode cX3_quake 20 = .ok (.aload_n 0, 1) := by decide +kernel
theorem dX3_quake_21 : decode cX3_quake 21 = .ok (.aload_n 0, 1) := by decide +kernel
theorem dX3_quake_22 : decode cX3_quake 22 = .ok (.getfield 153, 3) := by decide +kernel
theorem dX3_quake_25 : decode cX3_quake 25 = .ok (.iconst 5, 1) := by decide +kernel
theorem dX3_quake_26 : decode cX3_quake 26 = .ok (.iadd, 1) := by decide +kernel
theorem dX3_quake_27 : decode cX3_quake 27 = .ok (.putfield 156, 3) := by decide +kernel
theorem dX3_quake_30 : decode cX3_quake 30 = .ok (.aload_n 0, 1) := by decide +kernel
theorem dX3_quake_31 : decode cX3_quake 31 = .ok (.aload_n 0, 1) := by decide +kernel
theorem dX3_quake_32 : decode cX3_quake 32 = .ok (.getfield 156, 3) := by decide +kernel
theorem dX3_quake_35 : decode cX3_quake 35 = .ok (.iload_n 1, 1) := by decide +kernel
theorem dX3_quake_36 : decode cX3_quake 36 = .ok (.iadd, 1) := by decide +kernel
theorem dX3_quake_37 : decode cX3_quake 37 = .ok (.putfield 214, 3) := by decide +kernel
theorem dX3_quake_40 : decode cX3_quake 40 = .ok (.aload_n 0, 1) := by decide +kernel
theorem dX3_quake_41 : decode cX3_quake 41 = .ok (.getfield 214, 3) := by decide +kernel
theorem dX3_quake_44 : decode cX3_quake 44 = .ok (.ireturn, 1) := by decide +kernel
theorem dX3_energy_0 : decode cX3_energy 0 = .ok (.aload_n 0, 1) := by decide +kernel
theorem dX3_energy_1 : decode cX3_energy 1 = .ok (.getfield 217, 3) := by decide +kernel
theorem dX3_energy_4 : decode cX3_energy 4 = .ok (.lreturn, 1) := by decide +kernel
theorem dX3_entries_0 : decode cX3_entries 0 = .ok (.aload_n 0, 1) := by decide +kernel
theorem dX3_entries_1 : decode cX3_entries 1 = .ok (.getfield 22, 3) := by decide +kernel
theorem dX3_entries_4 : decode cX3_entries 4 = .ok (.getfield 221, 3) := by decide +kernel
theorem dX3_entries_7 : decode cX3_entries 7 = .ok (.ireturn, 1) := by decide +kernel
theorem dX3_entryAt_0 : decode cX3_entryAt 0 = .ok (.aload_n 0, 1) := by decide +kernel
theorem dX3_entryAt_1 : decode cX3_entryAt 1 = .ok (.iload_n 1, 1) := by decide +kernel
set_option maxRecDepth 20000 in
theorem ggX3_entryAt_X3_checkEntry : GoodIn wsX3_entryAt wsX3_checkEntry := goodIn_ca (goodIn_r _ [6, 7, 8, 1, 9, 20, 21, 22, 23, 24, 25, 26, 27, 28, 29, 30, 31, 32, 33] (by decide +kernel) (by decide +kernel)) (goodIn_sub (fun _ h => List.mem_cons_of_mem _ (List.mem_append_left _ (List.mem_append_right _ h))) (by decide +kernel))
set_option maxRecDepth 20000 in
theorem gX3_entryAt_X3_checkEntry : GoodIn wsX3_entryAt (wsV RX3 223 RX3 yX3_checkEntry wsX3_checkEntry) := goodIn_app (goodIn_of _ (by decide +kernel)) ggX3_entryAt_X3_checkEntry
theorem dX3_entryAt_2 : decode cX3_entryAt 2 = .ok (.invokevirtual 223, 3) := by decide +kernel
theorem dX3_entryOf_0 : decode cX3_entryOf 0 = .ok (.aload_n 0, 1) := by decide +kernel
theorem dX3_entryOf_1 : decode cX3_entryOf 1 = .ok (.iload_n 1, 1) := by decide +kernel
set_option maxRecDepth 20000 in
theorem ggX3_entryOf_X3_checkEntry : GoodIn wsX3_entryOf wsX3_checkEntry := goodIn_ca (goodIn_r _ [8, 9, 10, 3, 11, 30, 31, 32, 33, 34, 35, 36, 37, 38, 39, 40, 41, 42, 43] (by decide +kernel) (by decide +kernel)) (goodIn_sub (fun _ h => List.mem_cons_of_mem _ (List.mem_append_left _ (List.mem_append_right _ h))) (by decide +kernel))
set_option maxRecDepth 20000 in
theorem gX3_entryOf_X3_checkEntry : GoodIn wsX3_entryOf (wsV RX3 223 RX3 yX3_checkEntry wsX3_checkEntry) := goodIn_app (goodIn_of _ (by decide +kernel)) ggX3_entryOf_X3_checkEntry
theorem dX3_entryOf_2 : decode cX3_entryOf 2 = .ok (.invokevirtual 223, 3) := by decide +kernel
theorem dX3_people_0 : decode cX3_people 0 = .ok (.iload_n 1, 1) := by decide +kernel
theorem dX3_people_1 : decode cX3_people 1 = .ok (.bipush 119, 2) := by decide +kernel
theorem dX3_people_3 : decode cX3_people 3 = .ok (.if_icmp .eq 37, 3) := by decide +kernel
theorem dX3_people_40 : decode cX3_people 40 = .ok (.aload_n 0, 1) := by decide +kernel
theorem dX3_people_41 : decode cX3_people 41 = .ok (.iload_n 1, 1) := by decide +kernel
set_option maxRecDepth 20000 in
theorem ggX3_people_X3_countIn : GoodIn wsX3_people wsX3_countIn := goodIn_r _ [7, 8, 9, 10, 11, 12, 13, 14, 15, 16, 17, 18, 19, 20, 21, 22, 23, 24, 25, 26, 27, 28, 29, 30, 31, 32, 33, 34, 35, 36, 37, 38, 39, 40, 41, 42, 43, 44, 45, 46, 47, 48, 49, 50, 51, 52, 53, 54, 55] (by decide +kernel) (by decide +kernel)
set_option maxRecDepth 20000 in
theorem gX3_people_X3_countIn : GoodIn wsX3_people (wsV RX3 244 RX3 yX3_countIn wsX3_countIn) := goodIn_app (goodIn_of _ (by decide +kernel)) ggX3_people_X3_countIn
theorem dX3_people_42 : decode cX3_people 42 = .ok (.invokevirtual 244, 3) := by decide +kernel
theorem dX3_people_45 : decode cX3_people 45 = .ok (.ireturn, 1) := by decide +kernel
theorem dX3_people_6 : decode cX3_people 6 = .ok (.iload_n 1, 1) := by decide +kernel
theorem dX3_people_7 : decode cX3_people 7 = .ok (.bipush 105, 2) := by decide +kernel
theorem dX3_people_9 : decode cX3_people 9 = .ok (.if_icmp .eq 31, 3) := by decide +kernel
theorem dX3_people_12 : decode cX3_people 12 = .ok (.iload_n 1, 1) := by decide +kernel
theorem dX3_people_13 : decode cX3_people 13 = .ok (.bipush 100, 2) := by decide +kernel
theorem dX3_people_15 : decode cX3_people 15 = .ok (.if_icmp .eq 25, 3) := by decide +kernel
theorem dX3_people_18 : decode cX3_people 18 = .ok (.iload_n 1, 1) := by decide +kernel
theorem dX3_people_19 : decode cX3_people 19 = .ok (.bipush 115, 2) := by decide +kernel
theorem dX3_people_21 : decode cX3_people 21 = .ok (.if_icmp .eq 19, 3) := by decide +kernel
theorem dX3_people_24 : decode cX3_people 24 = .ok (.iload_n 1, 1) := by decide +kernel
theorem dX3_people_25 : decode cX3_people 25 = .ok (.bipush 114, 2) := by decide +kernel
theorem dX3_people_27 : decode cX3_people 27 = .ok (.if_icmp .eq 13, 3) := by decide +kernel
theorem dX3_people_30 : decode cX3_people 30 = .ok (.new 37, 3) := by decide +kernel
theorem dX3_people_33 : decode cX3_people 33 = .ok (.dup, 1) := by decide +kernel
theorem dX3_people_34 : decode cX3_people 34 = .ok (.ldc 242, 2) := by decide +kernel
theorem dX3_people_36 : decode cX3_people 36 = .ok (.invokespecial 41, 3) := by decide +kernel
theorem dX3_people_39 : decode cX3_people 39 = .ok (.athrow, 1) := by decide +kernel
theorem dX3_longest_0 : decode cX3_longest 0 = .ok (.iconst 0, 1) := by decide +kernel
theorem dX3_longest_1 : decode cX3_longest 1 = .ok (.istore_n 1, 1) := by decide +kernel
theorem dX3_longest_2 : decode cX3_longest 2 = .ok (.iconst 0, 1) := by decide +kernel
theorem dX3_longest_3 : decode cX3_longest 3 = .ok (.istore_n 2, 1) := by decide +kernel
theorem dX3_longest_4 : decode cX3_longest 4 = .ok (.iload_n 2, 1) := by decide +kernel
theorem dX3_longest_5 : decode cX3_longest 5 = .ok (.aload_n 0, 1) := by decide +kernel
theorem dX3_longest_6 : decode cX3_longest 6 = .ok (.getfield 16, 3) := by decide +kernel
set_option maxRecDepth 20000 in
theorem ggX3_longest_Jx4a65c_size_8abf5 : GoodIn wsX3_longest wsJx4a65c_size_8abf5 := goodIn_r _ [12, 13, 50, 51, 52] (by decide +kernel) (by decide +kernel)
set_option maxRecDepth 20000 in
theorem gX3_longest_Jx4a65c_size_8abf5 : GoodIn wsX3_longest (wsV RX3 75 RJx4a65c yJx4a65c_size_8abf5 wsJx4a65c_size_8abf5) := goodIn_app (goodIn_of _ (by decide +kernel)) ggX3_longest_Jx4a65c_size_8abf5
theorem dX3_longest_9 : decode cX3_longest 9 = .ok (.invokevirtual 75, 3) := by decide +kernel
theorem dX3_longest_12 : decode cX3_longest 12 = .ok (.if_icmp .ge 28, 3) := by decide +kernel
theorem dX3_longest_40 : decode cX3_longest 40 = .ok (.iload_n 1, 1) := by decide +kernel
theorem dX3_longest_41 : decode cX3_longest 41 = .ok (.ireturn, 1) := by decide +kernel
theorem dX3_comeShare_0 : decode cX3_comeShare 0 = .ok (.aload_n 0, 1) := by decide +kernel
theorem dX3_comeShare_1 : decode cX3_comeShare 1 = .ok (.getfield 16, 3) := by decide +kernel
set_option maxRecDepth 20000 in
theorem ggX3_comeShare_Jx4a65c_size_8abf5 : GoodIn wsX3_comeShare wsJx4a65c_size_8abf5 := goodIn_r _ [8, 9, 46, 47, 48] (by decide +kernel) (by decide +kernel)
set_option maxRecDepth 20000 in
theorem gX3_comeShare_Jx4a65c_size_8abf5 : GoodIn wsX3_comeShare (wsV RX3 75 RJx4a65c yJx4a65c_size_8abf5 wsJx4a65c_size_8abf5) := goodIn_app (goodIn_of _ (by decide +kernel)) ggX3_comeShare_Jx4a65c_size_8abf5
theorem dX3_comeShare_4 : decode cX3_comeShare 4 = .ok (.invokevirtual 75, 3) := by decide +kernel
theorem dX3_comeShare_7 : decode cX3_comeShare 7 = .ok (.istore_n 1, 1) := by decide +kernel
theorem dX3_comeShare_8 : decode cX3_comeShare 8 = .ok (.iload_n 1, 1) := by decide +kernel
theorem dX3_comeShare_9 : decode cX3_comeShare 9 = .ok (.ifCond .ne 14, 3) := by decide +kernel
theorem dX3_comeShare_12 : decode cX3_comeShare 12 = .ok (.new 254, 3) := by decide +kernel
theorem dX3_comeShare_15 : decode cX3_comeShare 15 = .ok (.dup, 1) := by decide +kernel
theorem dX3_comeShare_16 : decode cX3_comeShare 16 = .ok (.ldc_w 256, 3) := by decide +kernel
theorem dX3_comeShare_19 : decode cX3_comeShare 19 = .ok (.invokespecial 258, 3) := by decide +kernel
theorem dX3_comeShare_22 : decode cX3_comeShare 22 = .ok (.athrow, 1) := by decide +kernel
theorem dX3_meanWait_0 : decode cX3_meanWait 0 = .ok (.aload_n 0, 1) := by decide +kernel
theorem dX3_meanWait_1 : decode cX3_meanWait 1 = .ok (.getfield 16, 3) := by decide +kernel
set_option maxRecDepth 20000 in
theorem ggX3_meanWait_Jx4a65c_size_8abf5 : GoodIn wsX3_meanWait wsJx4a65c_size_8abf5 := goodIn_r _ [10, 11, 48, 49, 50] (by decide +kernel) (by decide +kernel)
set_option maxRecDepth 20000 in
theorem gX3_meanWait_Jx4a65c_size_8abf5 : GoodIn wsX3_meanWait (wsV RX3 75 RJx4a65c yJx4a65c_size_8abf5 wsJx4a65c_size_8abf5) := goodIn_app (goodIn_of _ (by decide +kernel)) ggX3_meanWait_Jx4a65c_size_8abf5
theorem dX3_meanWait_4 : decode cX3_meanWait 4 = .ok (.invokevirtual 75, 3) := by decide +kernel
theorem dX3_meanWait_7 : decode cX3_meanWait 7 = .ok (.istore_n 1, 1) := by decide +kernel
theorem dX3_meanWait_8 : decode cX3_meanWait 8 = .ok (.iload_n 1, 1) := by decide +kernel
theorem dX3_meanWait_9 : decode cX3_meanWait 9 = .ok (.ifCond .ne 14, 3) := by decide +kernel
theorem dX3_meanWait_12 : decode cX3_meanWait 12 = .ok (.new 254, 3) := by decide +kernel
theorem dX3_meanWait_15 : decode cX3_meanWait 15 = .ok (.dup, 1) := by decide +kernel
theorem dX3_meanWait_16 : decode cX3_meanWait 16 = .ok (.ldc_w 256, 3) := by decide +kernel
theorem dX3_meanWait_19 : decode cX3_meanWait 19 = .ok (.invokespecial 258, 3) := by decide +kernel
theorem dX3_meanWait_22 : decode cX3_meanWait 22 = .ok (.athrow, 1) := by decide +kernel
theorem dX3_isTrue_0 : decode cX3_isTrue 0 = .ok (.iconst 0, 1) := by decide +kernel
theorem dX3_isTrue_1 : decode cX3_isTrue 1 = .ok (.istore_n 1, 1) := by decide +kernel
theorem dX3_isTrue_2 : decode cX3_isTrue 2 = .ok (.iload_n 1, 1) := by decide +kernel
theorem dX3_isTrue_3 : decode cX3_isTrue 3 = .ok (.aload_n 0, 1) := by decide +kernel
theorem dX3_isTrue_4 : decode cX3_isTrue 4 = .ok (.getfield 10, 3) := by decide +kernel
set_option maxRecDepth 20000 in
theorem ggX3_isTrue_Jx4a65c_size_8abf5 : GoodIn wsX3_isTrue wsJx4a65c_size_8abf5 := goodIn_r _ [10, 11, 86, 87, 88] (by decide +kernel) (by decide +kernel)
set_option maxRecDepth 20000 in
theorem gX3_isTrue_Jx4a65c_size_8abf5 : GoodIn wsX3_isTrue (wsV RX3 75 RJx4a65c yJx4a65c_size_8abf5 wsJx4a65c_size_8abf5) := goodIn_app (goodIn_of _ (by decide +kernel)) ggX3_isTrue_Jx4a65c_size_8abf5
theorem dX3_isTrue_7 : decode cX3_isTrue 7 = .ok (.invokevirtual 75, 3) := by decide +kernel
theorem dX3_isTrue_10 : decode cX3_isTrue 10 = .ok (.if_icmp .ge 53, 3) := by decide +kernel
theorem dX3_isTrue_63 : decode cX3_isTrue 63 = .ok (.iconst 1, 1) := by decide +kernel
theorem dX3_isTrue_64 : decode cX3_isTrue 64 = .ok (.ireturn, 1) := by decide +kernel
theorem dX3_waitOneTick_0 : decode cX3_waitOneTick 0 = .ok (.aload_n 0, 1) := by decide +kernel
theorem dX3_waitOneTick_1 : decode cX3_waitOneTick 1 = .ok (.getfield 285, 3) := by decide +kernel
theorem dX3_waitOneTick_4 : decode cX3_waitOneTick 4 = .ok (.aload_n 0, 1) := by decide +kernel
theorem dX3_waitOneTick_5 : decode cX3_waitOneTick 5 = .ok (.getfield 288, 3) := by decide +kernel
theorem dX3_waitOneTick_8 : decode cX3_waitOneTick 8 = .ok (.ior, 1) := by decide +kernel
theorem dX3_waitOneTick_9 : decode cX3_waitOneTick 9 = .ok (.ifCond .ne 4, 3) := by decide +kernel
theorem dX3_waitOneTick_12 : decode cX3_waitOneTick 12 = .ok (.return_, 1) := by decide +kernel
theorem dX3_promiseCalls_0 : decode cX3_promiseCalls 0 = .ok (.aload_n 0, 1) := by decide +kernel
theorem dX3_promiseCalls_1 : decode cX3_promiseCalls 1 = .ok (.getfield 285, 3) := by decide +kernel
theorem dX3_promiseCalls_4 : decode cX3_promiseCalls 4 = .ok (.istore_n 1, 1) := by decide +kernel
theorem dX3_promiseCalls_5 : decode cX3_promiseCalls 5 = .ok (.aload_n 0, 1) := by decide +kernel
theorem dX3_promiseCalls_6 : decode cX3_promiseCalls 6 = .ok (.getfield 288, 3) := by decide +kernel
theorem dX3_promiseCalls_9 : decode cX3_promiseCalls 9 = .ok (.istore_n 2, 1) := by decide +kernel
theorem dX3_promiseCalls_10 : decode cX3_promiseCalls 10 = .ok (.iconst 0, 1) := by decide +kernel
theorem dX3_promiseCalls_11 : decode cX3_promiseCalls 11 = .ok (.istore_n 3, 1) := by decide +kernel
theorem dX3_promiseCalls_12 : decode cX3_promiseCalls 12 = .ok (.iload_n 3, 1) := by decide +kernel
theorem dX3_promiseCalls_13 : decode cX3_promiseCalls 13 = .ok (.aload_n 0, 1) := by decide +kernel
theorem dX3_promiseCalls_14 : decode cX3_promiseCalls 14 = .ok (.getfield 10, 3) := by decide +kernel
set_option maxRecDepth 20000 in
theorem ggX3_promiseCalls_Jx4a65c_size_8abf5 : GoodIn wsX3_promiseCalls wsJx4a65c_size_8abf5 := goodIn_r _ [12, 13, 147, 148, 149] (by decide +kernel) (by decide +kernel)
set_option maxRecDepth 20000 in
theorem gX3_promiseCalls_Jx4a65c_size_8abf5 : GoodIn wsX3_promiseCalls (wsV RX3 75 RJx4a65c yJx4a65c_size_8abf5 wsJx4a65c_size_8abf5) := goodIn_app (goodIn_of _ (by decide +kernel)) ggX3_promiseCalls_Jx4a65c_size_8abf5
theorem dX3_promiseCalls_17 : decode cX3_promiseCalls 17 = .ok (.invokevirtual 75, 3) := by decide +kernel
theorem dX3_promiseCalls_20 : decode cX3_promiseCalls 20 = .ok (.if_icmp .ge 47, 3) := by decide +kernel
theorem dX3_promiseCalls_67 : decode cX3_promiseCalls 67 = .ok (.iload_n 1, 1) := by decide +kernel
theorem dX3_promiseCalls_68 : decode cX3_promiseCalls 68 = .ok (.iload_n 2, 1) := by decide +kernel
theorem dX3_promiseCalls_69 : decode cX3_promiseCalls 69 = .ok (.ior, 1) := by decide +kernel
theorem dX3_promiseCalls_70 : decode cX3_promiseCalls 70 = .ok (.ifCond .ne 4, 3) := by decide +kernel
theorem dX3_promiseCalls_73 : decode cX3_promiseCalls 73 = .ok (.return_, 1) := by decide +kernel
theorem dX3_letCarsAct_0 : decode cX3_letCarsAct 0 = .ok (.iconst 0, 1) := by decide +kernel
theorem dX3_letCarsAct_1 : decode cX3_letCarsAct 1 = .ok (.istore_n 1, 1) := by decide +kernel
theorem dX3_letCarsAct_2 : decode cX3_letCarsAct 2 = .ok (.iload_n 1, 1) := by decide +kernel
theorem dX3_letCarsAct_3 : decode cX3_letCarsAct 3 = .ok (.aload_n 0, 1) := by decide +kernel
theorem dX3_letCarsAct_4 : decode cX3_letCarsAct 4 = .ok (.getfield 10, 3) := by decide +kernel
set_option maxRecDepth 20000 in
theorem ggX3_letCarsAct_Jx4a65c_size_8abf5 : GoodIn wsX3_letCarsAct wsJx4a65c_size_8abf5 := goodIn_r _ [9, 10, 261, 262, 263] (by decide +kernel) (by decide +kernel)
set_option maxRecDepth 20000 in
theorem gX3_letCarsAct_Jx4a65c_size_8abf5 : GoodIn wsX3_letCarsAct (wsV RX3 75 RJx4a65c yJx4a65c_size_8abf5 wsJx4a65c_size_8abf5) := goodIn_app (goodIn_of _ (by decide +kernel)) ggX3_letCarsAct_Jx4a65c_size_8abf5
theorem dX3_letCarsAct_7 : decode cX3_letCarsAct 7 = .ok (.invokevirtual 75, 3) := by decide +kernel
theorem dX3_letCarsAct_10 : decode cX3_letCarsAct 10 = .ok (.if_icmp .ge 67, 3) := by decide +kernel
theorem dX3_letCarsAct_77 : decode cX3_letCarsAct 77 = .ok (.return_, 1) := by decide +kernel
set_option maxHeartbeats 4000000 in
set_option maxRecDepth 100000 in
theorem c_X3_promised (l : Launch) (hst : l.stackTraces = false) (em kw kb : Nat) (D : va_G) (x : Nat) (p0 : Int32) (p1 : Int32) (c1 : Nat) (ps1 : Nat) (lg : Nat) (sz : Nat) : vx_Met l yX3_promised wsX3_promised ({ frames := 7, cells := 2, slots := 12, locals := 103 }) (va_Pc [.ref x, .int p0, .int p1] (tw_Pre em kw kb D sz [(x, .inr (7, [.ref c1, .ref ps1, .ref lg, .int 9, .int 99, .int 0, .int 0, .int 0, .int ((-1)), .int 0, .int 0, .long 0])), (c1, .inr (3, [.int 0, .ref em, .int 0]))] [])) (va_Qi (fun (r : Int32) (u : tw_U) => False) (tw_B D (va_A [(x, .inr (7, [.ref c1, .ref ps1, .ref lg, .int 9, .int 99, .int 0, .int 0, .int 0, .int ((-1)), .int 0, .int 0, .long 0])), (c1, .inr (3, [.int 0, .ref em, .int 0]))] sz)) (va_A [(x, .inr (7, [.ref c1, .ref ps1, .ref lg, .int 9, .int 99, .int 0, .int 0, .int 0, .int ((-1)), .int 0, .int 0, .long 0])), (c1, .inr (3, [.int 0, .ref em, .int 0]))] sz)) (vx_X (fun (u : String × tw_U) => ((((p0 < 0) ∨ (¬ p0 < 0 ∧ 9 < p0))) ∧ u = ("java/lang/IllegalArgumentException", (([], []) : tw_U))) ∨ (((¬ p0 < 0 ∧ ¬ 9 < p0)) ∧ u = ("java/util/NoSuchElementException", (([], []) : tw_U)))) (tw_BX D (va_A [(x, .inr (7, [.ref c1, .ref ps1, .ref lg, .int 9, .int 99, .int 0, .int 0, .int 0, .int ((-1)), .int 0, .int 0, .long 0])), (c1, .inr (3, [.int 0, .ref em, .int 0]))] sz)) (va_A [(x, .inr (7, [.ref c1, .ref ps1, .ref lg, .int 9, .int 99, .int 0, .int 0, .int 0, .int ((-1)), .int 0, .int 0, .long 0])), (c1, .inr (3, [.int 0, .ref em, .int 0]))] sz)) 2 12 (va_A [(x, .inr (7, [.ref c1, .ref ps1, .ref lg, .int 9, .int 99, .int 0, .int 0, .int 0, .int ((-1)), .int 0, .int 0, .long 0])), (c1, .inr (3, [.int 0, .ref em, .int 0]))] sz) := by
  refine vx_ofW (cc := cX3_promised) (maxL := 4) (ret := (some .int)) (by decide) rfl ?_
  intro p e s m args below meth c s₁ B hml htab hv
  obtain ⟨rfl, hsz, hP, hK, hD0, hF⟩ := hv
  have hx := B.exec
  have hb := B.bytes
  have hr := B.returns
  have hts := atoms_spec (ws := wsX3_promised) B.pre
  have hown : s.vm.findClass RX3 = some m.cls := findClass_of_methodNamed B.named
  have hlocks := B.notSynchronized
  have hiRX3 : ∀ w ∈ u_ws RX3 TX3 12, w ∈ wsX3_promised := by decide +kernel
  have hx191 : ∀ w ∈ tw_nse, w ∈ wsX3_promised := by decide +kernel
  subst hsz
  have hD := hD0.self (sz := s.heap.size)
  generalize hAe : va_A [(x, .inr (7, [.ref c1, .ref ps1, .ref lg, .int 9, .int 99, .int 0, .int 0, .int 0, .int ((-1)), .int 0, .int 0, .long 0])), (c1, .inr (3, [.int 0, .ref em, .int 0]))] s.heap.size = A at hD hF ⊢
  have hA : ∀ q : Nat, s.heap.size ≤ q → A q := fun q h => by rw [← hAe]; exact Or.inr h
  have hS : va_S A s.heap s.heap [] := va_S.rf
  have hP : va_P D vwCl [(x, .inr (7, [.ref c1, .ref ps1, .ref lg, .int 9, .int 99, .int 0, .int 0, .int 0, .int ((-1)), .int 0, .int 0, .long 0])), (c1, .inr (3, [.int 0, .ref em, .int 0]))] s.heap := hP
  have hl := lv_entry ([.ref x, .int p0, .int p1]) (n := 4) (Nat.le_of_ble_eq_true rfl)
  rw [lg_entry_eq]
  generalize (lg_sl ([.ref x, .int p0, .int p1]) ++ List.replicate (4 - (lg_sl ([.ref x, .int p0, .int p1])).length) Slot.unset).toArray = ls at hl ⊢
  have hl : lv_has ls 4 [(0, .ref x), (1, .int p0), (2, .int p1)] := hl
  refine lv_aload_n hx hb dX3_promised_0 rfl (lv_at hl 0 rfl) ?_
  refine lv_iload_n hx hb dX3_promised_1 rfl (lv_at hl 1 rfl) ?_
  have hPc := hP.sub (ws' := [(x, .inr (7, [.ref c1, .ref ps1, .ref lg, .int 9, .int 99, .int 0, .int 0, .int 0, .int ((-1)), .int 0, .int 0, .long 0]))]) [0] rfl
  have hDc := hD.sub (ws' := [(x, .inr (7, [.ref c1, .ref ps1, .ref lg, .int 9, .int 99, .int 0, .int 0, .int 0, .int ((-1)), .int 0, .int 0, .long 0]))]) [0] (by decide) rfl
  have hKc := hK.sub (tys' := []) [] rfl
  have hFc := va_free (wc := [(x, .inr (7, [.ref c1, .ref ps1, .ref lg, .int 9, .int 99, .int 0, .int 0, .int 0, .int ((-1)), .int 0, .int 0, .long 0]))]) hD hS hA [0] rfl
  refine vx_callv (vx_runV (As := [.int p0]) (rest := []) ⟨hx, hb, hml, hown, hts⟩ (c_X3_checkFloor l hst em kw kb D x p0 c1 ps1 lg _) (cwV 1 hts gX3_promised_X3_checkFloor rfl rfl rfl (by decide +kernel) ⟨(Nat.le_of_ble_eq_true rfl), (Nat.le_of_ble_eq_true rfl)⟩) (tw_preV hF hS hFc hPc hKc hDc (va_recv hKc hPc (ci := 7) (q0 := 0) rfl rfl)) rfl rfl hl.1 rfl (lv_room (Nat.le_of_ble_eq_true rfl)) dX3_promised_2 ⟨(Nat.le_of_ble_eq_true rfl), (Nat.le_of_ble_eq_true rfl)⟩) hS (fun q _ h => hFc q h) hFc (fun q _ h => hFc q h) (fun E ce q9 u t H locs ht hvm hw hB hz1 hk1 hS hce hcv hcl => ?_) (fun u t H locs ht hvm hw hB hz1 hk1 hS => ?_)
  · obtain ⟨hE, hB⟩ := hB
    obtain ⟨g_1, rfl⟩ := hw
    subst hE
    obtain ⟨hP, hD, hK⟩ := tw_join (wr := [(c1, .inr (3, [.int 0, .ref em, .int 0]))]) hP hD hK [0] [1] rfl rfl (by decide) (by decide) hk1 hFc ht hvm hB
    have hP : va_P D vwCl [(c1, .inr (3, [.int 0, .ref em, .int 0])), (x, .inr (7, [.ref c1, .ref ps1, .ref lg, .int 9, .int 99, .int 0, .int 0, .int 0, .int ((-1)), .int 0, .int 0, .long 0]))] _ := hP
    have hD : va_D A [(c1, .inr (3, [.int 0, .ref em, .int 0])), (x, .inr (7, [.ref c1, .ref ps1, .ref lg, .int 9, .int 99, .int 0, .int 0, .int 0, .int ((-1)), .int 0, .int 0, .long 0]))] := hD
    have hK : va_K D vwCl [] s := hK
    refine vx_widen (k := 2) (n := 12) (Nat.le_of_ble_eq_true rfl) (Nat.le_of_ble_eq_true rfl) ?_
    have hP9 := hP.sub (ws' := []) [] rfl
    have hD9 := hD.sub (ws' := []) [] (by decide) rfl
    have hK9 := hK.sub (tys' := []) [] rfl
    exact vx_out (fun x9 h9 => (htab x9 h9).elim) hlocks hce hcv hcl (tw_exc2 hP9 hK9 hD9 hS _ (Or.inl ⟨g_1, rfl⟩)) hS.2.2 (Nat.le_refl _) (Nat.le_refl _)
  · obtain ⟨g_2, rfl⟩ := hw
    obtain ⟨hP, hD, hK⟩ := tw_join (wr := [(c1, .inr (3, [.int 0, .ref em, .int 0]))]) hP hD hK [0] [1] rfl rfl (by decide) (by decide) hk1 hFc ht hvm hB
    have hP : va_P D vwCl [(c1, .inr (3, [.int 0, .ref em, .int 0])), (x, .inr (7, [.ref c1, .ref ps1, .ref lg, .int 9, .int 99, .int 0, .int 0, .int 0, .int ((-1)), .int 0, .int 0, .long 0]))] _ := hP
    have hD : va_D A [(c1, .inr (3, [.int 0, .ref em, .int 0])), (x, .inr (7, [.ref c1, .ref ps1, .ref lg, .int 9, .int 99, .int 0, .int 0, .int 0, .int ((-1)), .int 0, .int 0, .long 0]))] := hD
    have hK : va_K D vwCl [] s := hK
    refine W.widen (k := 1) (n := 6) (Nat.le_refl _) (Nat.le_refl _) ?_
    refine W.eq (g2 := F0 m 5 ls []) rfl ?_
    refine lv_iconst (v := 0) hx hb dX3_promised_5 (by decide) ?_
    refine lv_istore_n (lv' := [(3, .int 0), (0, .ref x), (1, .int p0), (2, .int p1)]) hx hb dX3_promised_6 rfl hl (by decide) rfl (fun ls hl => ?_)
    refine lv_iload_n hx hb dX3_promised_7 rfl (lv_at hl 0 rfl) ?_
    refine lv_aload_n hx hb dX3_promised_8 rfl (lv_at hl 1 rfl) ?_
    refine va_get (D := D) (ci := 7) (v := .ref c1) (C := RX3) (T := TX3) (N := 12) hx hb hts hiRX3 hown hK hP 1 rfl rfl 0 (by decide) (hts (.fieldLink RX3 10 "Towerliftry" "cars" "Ljava/util/ArrayList;") (by decide +kernel)) (fun _ h9 => h9) rfl dX3_promised_9 ?_
    have hPc := hP.sub (ws' := [(c1, .inr (3, [.int 0, .ref em, .int 0]))]) [0] rfl
    have hDc := hD.sub (ws' := [(c1, .inr (3, [.int 0, .ref em, .int 0]))]) [0] (by decide) rfl
    have hKc := hK.sub (tys' := []) [] rfl
    have hFc := va_free (wc := [(c1, .inr (3, [.int 0, .ref em, .int 0]))]) hD hS hA [0] rfl
    refine va_calli (va_runV (As := []) (rest := [.int 0]) ⟨hx, hb, hml, hown, hts⟩ (c_size0 l hst em kw kb D c1 em _) (cwV 0 hts gX3_promised_Jx4a65c_size_8abf5 rfl rfl rfl (by decide +kernel) ⟨(Nat.le_of_ble_eq_true rfl), (Nat.le_of_ble_eq_true rfl)⟩) (tw_preV hF hS hFc hPc hKc hDc (va_recv hKc hPc (ci := 3) (q0 := 0) rfl rfl)) rfl rfl hl.1 rfl (lv_room (Nat.le_of_ble_eq_true rfl)) dX3_promised_12 ⟨(Nat.le_of_ble_eq_true rfl), (Nat.le_of_ble_eq_true rfl)⟩) hS (fun q _ h => hFc q h) hFc (fun r u t H locs ht hvm hw hB hz1 hk1 hS => ?_)
    obtain ⟨rfl, rfl⟩ := hw
    obtain ⟨hP, hD, hK⟩ := tw_join (wr := [(x, .inr (7, [.ref c1, .ref ps1, .ref lg, .int 9, .int 99, .int 0, .int 0, .int 0, .int ((-1)), .int 0, .int 0, .long 0]))]) hP hD hK [0] [1] rfl rfl (by decide) (by decide) hk1 hFc ht hvm hB
    have hP : va_P D vwCl [(x, .inr (7, [.ref c1, .ref ps1, .ref lg, .int 9, .int 99, .int 0, .int 0, .int 0, .int ((-1)), .int 0, .int 0, .long 0])), (c1, .inr (3, [.int 0, .ref em, .int 0]))] _ := hP
    have hD : va_D A [(x, .inr (7, [.ref c1, .ref ps1, .ref lg, .int 9, .int 99, .int 0, .int 0, .int 0, .int ((-1)), .int 0, .int 0, .long 0])), (c1, .inr (3, [.int 0, .ref em, .int 0]))] := hD
    have hK : va_K D vwCl [] s := hK
    refine W.widen (k := 1) (n := 6) (Nat.le_refl _) (Nat.le_refl _) ?_
    refine W.eq (g2 := F0 m 15 ls [.int 0, .int 0]) rfl ?_
    refine lv_icmp_ge (tgt := 48) hx hb dX3_promised_15 (by decide) (fun c9 => ?_) (fun c9 => absurd c9 (by decide))
    obtain ⟨sa, hstr⟩ := tw_str hF (q := (189, "it is not promised")) (by decide)
    have hP9 := hP.sub (ws' := []) [] rfl
    have hD9 := hD.sub (ws' := []) [] (by decide) rfl
    have hK9 := hK.sub (tys' := []) [] rfl
    exact tw_throwX hx hb hst (own := RX3) (cls := "java/util/NoSuchElementException") (text := "it is not promised") (Y0 := "java/lang/RuntimeException") (r0 := ["java/lang/Exception"]) (ix := 13) (rx := tw_rx) (ik := 187) (is := 189) (ic := 191) hown (by decide +kernel) (by decide +kernel) tw_rx0 tw_rx1 tw_rx2 tw_rx5 (hts (.classLink RX3 187 "java/util/NoSuchElementException") (by decide +kernel)) (hts (.initialized "java/util/NoSuchElementException") (by decide +kernel)) hstr (tw_hat (L := tw_nsX) hF (fun w h => hts w (hx191 w h)) (by decide +kernel)) (by decide +kernel) hF.1 hF.2.1 hS (hl.1.trans hml.symm) dX3_promised_48 dX3_promised_51 dX3_promised_52 dX3_promised_54 dX3_promised_57 (fun x9 h9 => (htab x9 h9).elim) (Nat.le_of_ble_eq_true rfl) (Nat.le_of_ble_eq_true rfl) (Nat.le_of_ble_eq_true rfl) (Nat.le_of_ble_eq_true rfl) hlocks (tw_exc hP9 hK9 hD9 hS _ (Or.inr (⟨g_2, rfl⟩))) hS.2.2 (Nat.le_of_ble_eq_true rfl) (Nat.le_of_ble_eq_true rfl)
set_option maxHeartbeats 4000000 in
set_option maxRecDepth 100000 in
theorem c_X3_fire (l : Launch) (hst : l.stackTraces = false) (em kw kb : Nat) (D : va_G) (x : Nat) (p0 : Int32) (c1 : Nat) (ps1 : Nat) (lg : Nat) (sz : Nat) : vx_Met l yX3_fire wsX3_fire ({ frames := 7, cells := 1, slots := 6, locals := 103 }) (va_Pc [.ref x, .int p0] (tw_Pre em kw kb D sz [(x, .inr (7, [.ref c1, .ref ps1, .ref lg, .int 9, .int 99, .int 0, .int 0, .int 0, .int ((-1)), .int 0, .int 0, .long 0])), (c1, .inr (3, [.int 0, .ref em, .int 0]))] [])) (va_Qi (fun (r : Int32) (u : tw_U) => ((¬ p0 < 0 ∧ ¬ 9 < p0)) ∧ r = 0 ∧ u = ([], [])) (tw_B D (va_A [(x, .inr (7, [.ref c1, .ref ps1, .ref lg, .int 9, .int 99, .int 0, .int 0, .int 0, .int ((-1)), .int 0, .int 0, .long 0])), (c1, .inr (3, [.int 0, .ref em, .int 0]))] sz)) (va_A [(x, .inr (7, [.ref c1, .ref ps1, .ref lg, .int 9, .int 99, .int 0, .int 0, .int 0, .int ((-1)), .int 0, .int 0, .long 0])), (c1, .inr (3, [.int 0, .ref em, .int 0]))] sz)) (vx_X (fun (u : String × tw_U) => (((p0 < 0) ∨ (¬ p0 < 0 ∧ 9 < p0))) ∧ u = ("java/lang/IllegalArgumentException", (([], []) : tw_U))) (tw_BX D (va_A [(x, .inr (7, [.ref c1, .ref ps1, .ref lg, .int 9, .int 99, .int 0, .int 0, .int 0, .int ((-1)), .int 0, .int 0, .long 0])), (c1, .inr (3, [.int 0, .ref em, .int 0]))] sz)) (va_A [(x, .inr (7, [.ref c1, .ref ps1, .ref lg, .int 9, .int 99, .int 0, .int 0, .int 0, .int ((-1)), .int 0, .int 0, .long 0])), (c1, .inr (3, [.int 0, .ref em, .int 0]))] sz)) 1 6 (va_A [(x, .inr (7, [.ref c1, .ref ps1, .ref lg, .int 9, .int 99, .int 0, .int 0, .int 0, .int ((-1)), .int 0, .int 0, .long 0])), (c1, .inr (3, [.int 0, .ref em, .int 0]))] sz) := by
  refine vx_ofW (cc := cX3_fire) (maxL := 5) (ret := (some .int)) (by decide) rfl ?_
  intro p e s m args below meth c s₁ B hml htab hv
  obtain ⟨rfl, hsz, hP, hK, hD0, hF⟩ := hv
  have hx := B.exec
  have hb := B.bytes
  have hr := B.returns
  have hts := atoms_spec (ws := wsX3_fire) B.pre
  have hown : s.vm.findClass RX3 = some m.cls := findClass_of_methodNamed B.named
  have hlocks := B.notSynchronized
  have hiRX3 : ∀ w ∈ u_ws RX3 TX3 12, w ∈ wsX3_fire := by decide +kernel
  subst hsz
  have hD := hD0.self (sz := s.heap.size)
  generalize hAe : va_A [(x, .inr (7, [.ref c1, .ref ps1, .ref lg, .int 9, .int 99, .int 0, .int 0, .int 0, .int ((-1)), .int 0, .int 0, .long 0])), (c1, .inr (3, [.int 0, .ref em, .int 0]))] s.heap.size = A at hD hF ⊢
  have hA : ∀ q : Nat, s.heap.size ≤ q → A q := fun q h => by rw [← hAe]; exact Or.inr h
  have hS : va_S A s.heap s.heap [] := va_S.rf
  have hP : va_P D vwCl [(x, .inr (7, [.ref c1, .ref ps1, .ref lg, .int 9, .int 99, .int 0, .int 0, .int 0, .int ((-1)), .int 0, .int 0, .long 0])), (c1, .inr (3, [.int 0, .ref em, .int 0]))] s.heap := hP
  have hl := lv_entry ([.ref x, .int p0]) (n := 5) (Nat.le_of_ble_eq_true rfl)
  rw [lg_entry_eq]
  generalize (lg_sl ([.ref x, .int p0]) ++ List.replicate (5 - (lg_sl ([.ref x, .int p0])).length) Slot.unset).toArray = ls at hl ⊢
  have hl : lv_has ls 5 [(0, .ref x), (1, .int p0)] := hl
  refine lv_aload_n hx hb dX3_fire_0 rfl (lv_at hl 0 rfl) ?_
  refine lv_iload_n hx hb dX3_fire_1 rfl (lv_at hl 1 rfl) ?_
  have hPc := hP.sub (ws' := [(x, .inr (7, [.ref c1, .ref ps1, .ref lg, .int 9, .int 99, .int 0, .int 0, .int 0, .int ((-1)), .int 0, .int 0, .long 0]))]) [0] rfl
  have hDc := hD.sub (ws' := [(x, .inr (7, [.ref c1, .ref ps1, .ref lg, .int 9, .int 99, .int 0, .int 0, .int 0, .int ((-1)), .int 0, .int 0, .long 0]))]) [0] (by decide) rfl
  have hKc := hK.sub (tys' := []) [] rfl
  have hFc := va_free (wc := [(x, .inr (7, [.ref c1, .ref ps1, .ref lg, .int 9, .int 99, .int 0, .int 0, .int 0, .int ((-1)), .int 0, .int 0, .long 0]))]) hD hS hA [0] rfl
  refine vx_callv (vx_runV (As := [.int p0]) (rest := []) ⟨hx, hb, hml, hown, hts⟩ (c_X3_checkFloor l hst em kw kb D x p0 c1 ps1 lg _) (cwV 1 hts gX3_fire_X3_checkFloor rfl rfl rfl (by decide +kernel) ⟨(Nat.le_of_ble_eq_true rfl), (Nat.le_of_ble_eq_true rfl)⟩) (tw_preV hF hS hFc hPc hKc hDc (va_recv hKc hPc (ci := 7) (q0 := 0) rfl rfl)) rfl rfl hl.1 rfl (lv_room (Nat.le_of_ble_eq_true rfl)) dX3_fire_2 ⟨(Nat.le_of_ble_eq_true rfl), (Nat.le_of_ble_eq_true rfl)⟩) hS (fun q _ h => hFc q h) hFc (fun q _ h => hFc q h) (fun E ce q9 u t H locs ht hvm hw hB hz1 hk1 hS hce hcv hcl => ?_) (fun u t H locs ht hvm hw hB hz1 hk1 hS => ?_)
  · obtain ⟨hE, hB⟩ := hB
    obtain ⟨g_1, rfl⟩ := hw
    subst hE
    obtain ⟨hP, hD, hK⟩ := tw_join (wr := [(c1, .inr (3, [.int 0, .ref em, .int 0]))]) hP hD hK [0] [1] rfl rfl (by decide) (by decide) hk1 hFc ht hvm hB
    have hP : va_P D vwCl [(c1, .inr (3, [.int 0, .ref em, .int 0])), (x, .inr (7, [.ref c1, .ref ps1, .ref lg, .int 9, .int 99, .int 0, .int 0, .int 0, .int ((-1)), .int 0, .int 0, .long 0]))] _ := hP
    have hD : va_D A [(c1, .inr (3, [.int 0, .ref em, .int 0])), (x, .inr (7, [.ref c1, .ref ps1, .ref lg, .int 9, .int 99, .int 0, .int 0, .int 0, .int ((-1)), .int 0, .int 0, .long 0]))] := hD
    have hK : va_K D vwCl [] s := hK
    refine vx_widen (k := 1) (n := 6) (Nat.le_of_ble_eq_true rfl) (Nat.le_of_ble_eq_true rfl) ?_
    have hP9 := hP.sub (ws' := []) [] rfl
    have hD9 := hD.sub (ws' := []) [] (by decide) rfl
    have hK9 := hK.sub (tys' := []) [] rfl
    exact vx_out (fun x9 h9 => (htab x9 h9).elim) hlocks hce hcv hcl (tw_exc2 hP9 hK9 hD9 hS _ ⟨g_1, rfl⟩) hS.2.2 (Nat.le_refl _) (Nat.le_refl _)
  · obtain ⟨g_2, rfl⟩ := hw
    obtain ⟨hP, hD, hK⟩ := tw_join (wr := [(c1, .inr (3, [.int 0, .ref em, .int 0]))]) hP hD hK [0] [1] rfl rfl (by decide) (by decide) hk1 hFc ht hvm hB
    have hP : va_P D vwCl [(c1, .inr (3, [.int 0, .ref em, .int 0])), (x, .inr (7, [.ref c1, .ref ps1, .ref lg, .int 9, .int 99, .int 0, .int 0, .int 0, .int ((-1)), .int 0, .int 0, .long 0]))] _ := hP
    have hD : va_D A [(c1, .inr (3, [.int 0, .ref em, .int 0])), (x, .inr (7, [.ref c1, .ref ps1, .ref lg, .int 9, .int 99, .int 0, .int 0, .int 0, .int ((-1)), .int 0, .int 0, .long 0]))] := hD
    have hK : va_K D vwCl [] s := hK
    refine W.widen (k := 1) (n := 6) (Nat.le_refl _) (Nat.le_refl _) ?_
    refine W.eq (g2 := F0 m 5 ls []) rfl ?_
    refine lv_iconst (v := 0) hx hb dX3_fire_5 (by decide) ?_
    refine lv_istore_n (lv' := [(2, .int 0), (0, .ref x), (1, .int p0)]) hx hb dX3_fire_6 rfl hl (by decide) rfl (fun ls hl => ?_)
    refine lv_iconst (v := 0) hx hb dX3_fire_7 (by decide) ?_
    refine lv_istore_n (lv' := [(3, .int 0), (2, .int 0), (0, .ref x), (1, .int p0)]) hx hb dX3_fire_8 rfl hl (by decide) rfl (fun ls hl => ?_)
    refine lv_iload_n hx hb dX3_fire_9 rfl (lv_at hl 0 rfl) ?_
    refine lv_aload_n hx hb dX3_fire_10 rfl (lv_at hl 2 rfl) ?_
    refine va_get (D := D) (ci := 7) (v := .ref c1) (C := RX3) (T := TX3) (N := 12) hx hb hts hiRX3 hown hK hP 1 rfl rfl 0 (by decide) (hts (.fieldLink RX3 10 "Towerliftry" "cars" "Ljava/util/ArrayList;") (by decide +kernel)) (fun _ h9 => h9) rfl dX3_fire_11 ?_
    have hPc := hP.sub (ws' := [(c1, .inr (3, [.int 0, .ref em, .int 0]))]) [0] rfl
    have hDc := hD.sub (ws' := [(c1, .inr (3, [.int 0, .ref em, .int 0]))]) [0] (by decide) rfl
    have hKc := hK.sub (tys' := []) [] rfl
    have hFc := va_free (wc := [(c1, .inr (3, [.int 0, .ref em, .int 0]))]) hD hS hA [0] rfl
    refine va_calli (va_runV (As := []) (rest := [.int 0]) ⟨hx, hb, hml, hown, hts⟩ (c_size0 l hst em kw kb D c1 em _) (cwV 0 hts gX3_fire_Jx4a65c_size_8abf5 rfl rfl rfl (by decide +kernel) ⟨(Nat.le_of_ble_eq_true rfl), (Nat.le_of_ble_eq_true rfl)⟩) (tw_preV hF hS hFc hPc hKc hDc (va_recv hKc hPc (ci := 3) (q0 := 0) rfl rfl)) rfl rfl hl.1 rfl (lv_room (Nat.le_of_ble_eq_true rfl)) dX3_fire_14 ⟨(Nat.le_of_ble_eq_true rfl), (Nat.le_of_ble_eq_true rfl)⟩) hS (fun q _ h => hFc q h) hFc (fun r u t H locs ht hvm hw hB hz1 hk1 hS => ?_)
    obtain ⟨rfl, rfl⟩ := hw
    obtain ⟨hP, hD, hK⟩ := tw_join (wr := [(x, .inr (7, [.ref c1, .ref ps1, .ref lg, .int 9, .int 99, .int 0, .int 0, .int 0, .int ((-1)), .int 0, .int 0, .long 0]))]) hP hD hK [0] [1] rfl rfl (by decide) (by decide) hk1 hFc ht hvm hB
    have hP : va_P D vwCl [(x, .inr (7, [.ref c1, .ref ps1, .ref lg, .int 9, .int 99, .int 0, .int 0, .int 0, .int ((-1)), .int 0, .int 0, .long 0])), (c1, .inr (3, [.int 0, .ref em, .int 0]))] _ := hP
    have hD : va_D A [(x, .inr (7, [.ref c1, .ref ps1, .ref lg, .int 9, .int 99, .int 0, .int 0, .int 0, .int ((-1)), .int 0, .int 0, .long 0])), (c1, .inr (3, [.int 0, .ref em, .int 0]))] := hD
    have hK : va_K D vwCl [] s := hK
    refine W.widen (k := 1) (n := 6) (Nat.le_refl _) (Nat.le_refl _) ?_
    refine W.eq (g2 := F0 m 17 ls [.int 0, .int 0]) rfl ?_
    refine lv_icmp_ge (tgt := 58) hx hb dX3_fire_17 (by decide) (fun c9 => ?_) (fun c9 => absurd c9 (by decide))
    refine lv_aload_n hx hb dX3_fire_58 rfl (lv_at hl 2 rfl) ?_
    refine lv_iload_n hx hb dX3_fire_59 rfl (lv_at hl 3 rfl) ?_
    refine va_put (D := D) (ci := 7) (v := .int p0) (ty := .int) (C := RX3) (T := TX3) (N := 12) hx hb hts hiRX3 tyX3 tyX3_ok nmX3 hown hK hP hD hS 0 rfl rfl 8 (by decide) (hts (.fieldLink RX3 34 "Towerliftry" "fireFloor" "I") (by decide +kernel)) (fun _ h9 => h9) rfl (by decide +kernel) rfl rfl (Nat.le_of_ble_eq_true rfl) dX3_fire_60 (fun H locs hP hD hS => ?_)
    have hP : va_P D vwCl [(x, .inr (7, [.ref c1, .ref ps1, .ref lg, .int 9, .int 99, .int 0, .int 0, .int 0, .int p0, .int 0, .int 0, .long 0])), (c1, .inr (3, [.int 0, .ref em, .int 0]))] _ := hP
    have hD : va_D A [(x, .inr (7, [.ref c1, .ref ps1, .ref lg, .int 9, .int 99, .int 0, .int 0, .int 0, .int p0, .int 0, .int 0, .long 0])), (c1, .inr (3, [.int 0, .ref em, .int 0]))] := hD
    refine lv_iload_n hx hb dX3_fire_63 rfl (lv_at hl 1 rfl) ?_
    refine W.widen (k := 1) (n := 6) (Nat.le_of_ble_eq_true rfl) (Nat.le_of_ble_eq_true rfl) ?_
    have hP9 := hP.sub (ws' := []) [] rfl
    have hD9 := hD.sub (ws' := []) [] (by decide) rfl
    have hK9 := hK.sub (tys' := []) [] rfl
    refine vx_ret ?_
    exact W.iret (v := 0) hx hb hr (fun t ht hW => ⟨⟨0, ([], []), rfl, ⟨g_2, rfl, rfl⟩, by rw [ht]; exact hP9, va_K.moved hW.alike hK9, hD9⟩, hS.F ht⟩) hS.2.2 dX3_fire_64
set_option maxHeartbeats 4000000 in
set_option maxRecDepth 100000 in
theorem c_X3_clear (l : Launch) (hst : l.stackTraces = false) (em kw kb : Nat) (D : va_G) (x : Nat) (c1 : Nat) (ps1 : Nat) (lg : Nat) (sz : Nat) : Met l yX3_clear wsX3_clear ({ frames := 0, cells := 0, slots := 0, locals := 0 }) (va_Pc [.ref x] (tw_Pre em kw kb D sz [(x, .inr (7, [.ref c1, .ref ps1, .ref lg, .int 9, .int 99, .int 0, .int 0, .int 0, .int ((-1)), .int 0, .int 0, .long 0]))] [])) (va_Qi (fun (r : Int32) (u : tw_U) => r = 0 ∧ u = ([], [])) (tw_B D (va_A [(x, .inr (7, [.ref c1, .ref ps1, .ref lg, .int 9, .int 99, .int 0, .int 0, .int 0, .int ((-1)), .int 0, .int 0, .long 0]))] sz)) (va_A [(x, .inr (7, [.ref c1, .ref ps1, .ref lg, .int 9, .int 99, .int 0, .int 0, .int 0, .int ((-1)), .int 0, .int 0, .long 0]))] sz)) 0 0 (va_A [(x, .inr (7, [.ref c1, .ref ps1, .ref lg, .int 9, .int 99, .int 0, .int 0, .int 0, .int ((-1)), .int 0, .int 0, .long 0]))] sz) := by
  refine Met.ofW (cc := cX3_clear) (maxL := 3) (ret := (some .boolean)) (by decide) rfl ?_
  intro p e s m args below meth c s₁ B hml hv
  obtain ⟨rfl, hsz, hP, hK, hD0, hF⟩ := hv
  have hx := B.exec
  have hb := B.bytes
  have hr := B.returns
  have hts := atoms_spec (ws := wsX3_clear) B.pre
  have hown : s.vm.findClass RX3 = some m.cls := findClass_of_methodNamed B.named
  have hlocks := B.notSynchronized
  have hiRX3 : ∀ w ∈ u_ws RX3 TX3 12, w ∈ wsX3_clear := by decide +kernel
  subst hsz
  have hD := hD0.self (sz := s.heap.size)
  generalize hAe : va_A [(x, .inr (7, [.ref c1, .ref ps1, .ref lg, .int 9, .int 99, .int 0, .int 0, .int 0, .int ((-1)), .int 0, .int 0, .long 0]))] s.heap.size = A at hD hF ⊢
  have hA : ∀ q : Nat, s.heap.size ≤ q → A q := fun q h => by rw [← hAe]; exact Or.inr h
  have hS : va_S A s.heap s.heap [] := va_S.rf
  have hP : va_P D vwCl [(x, .inr (7, [.ref c1, .ref ps1, .ref lg, .int 9, .int 99, .int 0, .int 0, .int 0, .int ((-1)), .int 0, .int 0, .long 0]))] s.heap := hP
  have hl := lv_entry ([.ref x]) (n := 3) (Nat.le_of_ble_eq_true rfl)
  rw [lg_entry_eq]
  generalize (lg_sl ([.ref x]) ++ List.replicate (3 - (lg_sl ([.ref x])).length) Slot.unset).toArray = ls at hl ⊢
  have hl : lv_has ls 3 [(0, .ref x)] := hl
  refine lv_aload_n hx hb dX3_clear_0 rfl (lv_at hl 0 rfl) ?_
  refine va_get (D := D) (ci := 7) (v := .int ((-1))) (C := RX3) (T := TX3) (N := 12) hx hb hts hiRX3 hown hK hP 0 rfl rfl 8 (by decide) (hts (.fieldLink RX3 34 "Towerliftry" "fireFloor" "I") (by decide +kernel)) (fun _ h9 => h9) rfl dX3_clear_1 ?_
  refine lv_iconst (v := (-1)) hx hb dX3_clear_4 (by decide) ?_
  refine lv_icmp_ne (tgt := 10) hx hb dX3_clear_5 (by decide) (fun c9 => absurd c9 (by decide)) (fun c9 => ?_)
  refine lv_iconst (v := 0) hx hb dX3_clear_8 (by decide) ?_
  refine W.widen (k := 0) (n := 0) (Nat.le_of_ble_eq_true rfl) (Nat.le_of_ble_eq_true rfl) ?_
  have hP9 := hP.sub (ws' := []) [] rfl
  have hD9 := hD.sub (ws' := []) [] (by decide) rfl
  have hK9 := hK.sub (tys' := []) [] rfl
  exact W.zret (v := 0) (ty := .boolean) hx hb hr (by decide) (fun t ht hW => ⟨⟨0, ([], []), rfl, ⟨rfl, rfl⟩, by rw [ht]; exact hP9, va_K.moved hW.alike hK9, hD9⟩, hS.F ht⟩) hS.2.2 dX3_clear_9
set_option maxHeartbeats 4000000 in
set_option maxRecDepth 100000 in
theorem c_X3_quake (l : Launch) (hst : l.stackTraces = false) (em kw kb : Nat) (D : va_G) (x : Nat) (p0 : Int32) (c1 : Nat) (ps1 : Nat) (lg : Nat) (sz : Nat) : vx_Met l yX3_quake wsX3_quake ({ frames := 6, cells := 1, slots := 6, locals := 82 }) (va_Pc [.ref x, .int p0] (tw_Pre em kw kb D sz [(x, .inr (7, [.ref c1, .ref ps1, .ref lg, .int 9, .int 99, .int 0, .int 0, .int 0, .int ((-1)), .int 0, .int 0, .long 0]))] [])) (va_Qi (fun (r : Int32) (u : tw_U) => (¬ p0 < 0 ∧ p0 ≤ 99) ∧ r = (5 : Int32) + p0 ∧ u = ([], [])) (tw_B D (va_A [(x, .inr (7, [.ref c1, .ref ps1, .ref lg, .int 9, .int 99, .int 0, .int 0, .int 0, .int ((-1)), .int 0, .int 0, .long 0]))] sz)) (va_A [(x, .inr (7, [.ref c1, .ref ps1, .ref lg, .int 9, .int 99, .int 0, .int 0, .int 0, .int ((-1)), .int 0, .int 0, .long 0]))] sz)) (vx_X (fun (u : String × tw_U) => ((p0 < 0) ∨ (¬ p0 < 0 ∧ ¬ p0 ≤ 99)) ∧ u = ("java/lang/IllegalArgumentException", (([], []) : tw_U))) (tw_BX D (va_A [(x, .inr (7, [.ref c1, .ref ps1, .ref lg, .int 9, .int 99, .int 0, .int 0, .int 0, .int ((-1)), .int 0, .int 0, .long 0]))] sz)) (va_A [(x, .inr (7, [.ref c1, .ref ps1, .ref lg, .int 9, .int 99, .int 0, .int 0, .int 0, .int ((-1)), .int 0, .int 0, .long 0]))] sz)) 1 6 (va_A [(x, .inr (7, [.ref c1, .ref ps1, .ref lg, .int 9, .int 99, .int 0, .int 0, .int 0, .int ((-1)), .int 0, .int 0, .long 0]))] sz) := by
  refine vx_ofW (cc := cX3_quake) (maxL := 2) (ret := (some .int)) (by decide) rfl ?_
  intro p e s m args below meth c s₁ B hml htab hv
  obtain ⟨rfl, hsz, hP, hK, hD0, hF⟩ := hv
  have hx := B.exec
  have hb := B.bytes
  have hr := B.returns
  have hts := atoms_spec (ws := wsX3_quake) B.pre
  have hown : s.vm.findClass RX3 = some m.cls := findClass_of_methodNamed B.named
  have hlocks := B.notSynchronized
  have hiRX3 : ∀ w ∈ u_ws RX3 TX3 12, w ∈ wsX3_quake := by decide +kernel
  have hx41 : ∀ w ∈ (vx_atS RX3 41 "java/lang/IllegalArgumentException" ["java/lang/RuntimeException", "java/lang/Exception"]).filter goodWord, w ∈ wsX3_quake := by decide +kernel
  subst hsz
  have hD := hD0.self (sz := s.heap.size)
  generalize hAe : va_A [(x, .inr (7, [.ref c1, .ref ps1, .ref lg, .int 9, .int 99, .int 0, .int 0, .int 0, .int ((-1)), .int 0, .int 0, .long 0]))] s.heap.size = A at hD hF ⊢
  have hA : ∀ q : Nat, s.heap.size ≤ q → A q := fun q h => by rw [← hAe]; exact Or.inr h
  have hS : va_S A s.heap s.heap [] := va_S.rf
  have hP : va_P D vwCl [(x, .inr (7, [.ref c1, .ref ps1, .ref lg, .int 9, .int 99, .int 0, .int 0, .int 0, .int ((-1)), .int 0, .int 0, .long 0]))] s.heap := hP
  have hl := lv_entry ([.ref x, .int p0]) (n := 2) (Nat.le_of_ble_eq_true rfl)
  rw [lg_entry_eq]
  generalize (lg_sl ([.ref x, .int p0]) ++ List.replicate (2 - (lg_sl ([.ref x, .int p0])).length) Slot.unset).toArray = ls at hl ⊢
  have hl : lv_has ls 2 [(0, .ref x), (1, .int p0)] := hl
  refine lv_iload_n hx hb dX3_quake_0 rfl (lv_at hl 1 rfl) ?_
  refine lv_if_lt (tgt := 10) hx hb dX3_quake_1 (by decide) (fun c_1 => ?_) (fun c_1 => ?_)
  · obtain ⟨sa, hstr⟩ := tw_str hF (q := (212, "the slow ticks are out of range")) (by decide)
    have hP9 := hP.sub (ws' := []) [] rfl
    have hD9 := hD.sub (ws' := []) [] (by decide) rfl
    have hK9 := hK.sub (tys' := []) [] rfl
    exact vx_throwS hx hb hst (own := RX3) (cls := "java/lang/IllegalArgumentException") (text := "the slow ticks are out of range") (names := ["java/lang/RuntimeException", "java/lang/Exception"]) (ik := 37) (is := 212) (ic := 41) hown (by decide +kernel) (by decide +kernel) (hts (.classLink RX3 37 "java/lang/IllegalArgumentException") (by decide +kernel)) (hts (.initialized "java/lang/IllegalArgumentException") (by decide +kernel)) hstr (tw_hat hF (fun w h => hts w (hx41 w h)) (by decide +kernel)) (by decide +kernel) hF.1 hF.2.1 hS (hl.1.trans hml.symm) dX3_quake_10 dX3_quake_13 dX3_quake_14 dX3_quake_16 dX3_quake_19 (fun x9 h9 => (htab x9 h9).elim) (Nat.le_of_ble_eq_true rfl) (Nat.le_of_ble_eq_true rfl) (Nat.le_of_ble_eq_true rfl) (Nat.le_of_ble_eq_true rfl) hlocks (tw_exc hP9 hK9 hD9 hS _ ⟨(Or.inl c_1), rfl⟩) hS.2.2 (Nat.le_of_ble_eq_true rfl) (Nat.le_of_ble_eq_true rfl)
  · refine lv_iload_n hx hb dX3_quake_4 rfl (lv_at hl 1 rfl) ?_
    refine lv_bipush (v := 99) hx hb dX3_quake_5 (by decide) ?_
    refine lv_icmp_le (tgt := 20) hx hb dX3_quake_7 (by decide) (fun c_2 => ?_) (fun c_2 => ?_)
    · refine lv_aload_n hx hb dX3_quake_20 rfl (lv_at hl 0 rfl) ?_
      refine lv_aload_n hx hb dX3_quake_21 rfl (lv_at hl 0 rfl) ?_
      refine va_get (D := D) (ci := 7) (v := .int 0) (C := RX3) (T := TX3) (N := 12) hx hb hts hiRX3 hown hK hP 0 rfl rfl 5 (by decide) (hts (.fieldLink RX3 153 "Towerliftry" "tick" "I") (by decide +kernel)) (fun _ h9 => h9) rfl dX3_quake_22 ?_
      refine lv_iconst (v := 5) hx hb dX3_quake_25 (by decide) ?_
      refine lv_iadd hx hb dX3_quake_26 ?_
      refine lv_topi (fun z_3 ez_3 => ?_)
      have ez_3 : z_3 = (5 : Int32) := ez_3.trans (by decide)
      subst ez_3
      refine va_put (D := D) (ci := 7) (v := .int 5) (ty := .int) (C := RX3) (T := TX3) (N := 12) hx hb hts hiRX3 tyX3 tyX3_ok nmX3 hown hK hP hD hS 0 rfl rfl 9 (by decide) (hts (.fieldLink RX3 156 "Towerliftry" "stillUntil" "I") (by decide +kernel)) (fun _ h9 => h9) rfl (by decide +kernel) rfl rfl (Nat.le_of_ble_eq_true rfl) dX3_quake_27 (fun H locs hP hD hS => ?_)
      have hP : va_P D vwCl [(x, .inr (7, [.ref c1, .ref ps1, .ref lg, .int 9, .int 99, .int 0, .int 0, .int 0, .int ((-1)), .int 5, .int 0, .long 0]))] _ := hP
      have hD : va_D A [(x, .inr (7, [.ref c1, .ref ps1, .ref lg, .int 9, .int 99, .int 0, .int 0, .int 0, .int ((-1)), .int 5, .int 0, .long 0]))] := hD
      refine lv_aload_n hx hb dX3_quake_30 rfl (lv_at hl 0 rfl) ?_
      refine lv_aload_n hx hb dX3_quake_31 rfl (lv_at hl 0 rfl) ?_
      refine va_get (D := D) (ci := 7) (v := .int 5) (C := RX3) (T := TX3) (N := 12) hx hb hts hiRX3 hown hK hP 0 rfl rfl 9 (by decide) (hts (.fieldLink RX3 156 "Towerliftry" "stillUntil" "I") (by decide +kernel)) (fun _ h9 => h9) rfl dX3_quake_32 ?_
      refine lv_iload_n hx hb dX3_quake_35 rfl (lv_at hl 1 rfl) ?_
      refine lv_iadd hx hb dX3_quake_36 ?_
      refine va_put (D := D) (ci := 7) (v := .int ((5 : Int32) + p0)) (ty := .int) (C := RX3) (T := TX3) (N := 12) hx hb hts hiRX3 tyX3 tyX3_ok nmX3 hown hK hP hD hS 0 rfl rfl 10 (by decide) (hts (.fieldLink RX3 214 "Towerliftry" "slowUntil" "I") (by decide +kernel)) (fun _ h9 => h9) rfl (by decide +kernel) rfl rfl (Nat.le_of_ble_eq_true rfl) dX3_quake_37 (fun H locs hP hD hS => ?_)
      have hP : va_P D vwCl [(x, .inr (7, [.ref c1, .ref ps1, .ref lg, .int 9, .int 99, .int 0, .int 0, .int 0, .int ((-1)), .int 5, .int ((5 : Int32) + p0), .long 0]))] _ := hP
      have hD : va_D A [(x, .inr (7, [.ref c1, .ref ps1, .ref lg, .int 9, .int 99, .int 0, .int 0, .int 0, .int ((-1)), .int 5, .int ((5 : Int32) + p0), .long 0]))] := hD
      refine lv_aload_n hx hb dX3_quake_40 rfl (lv_at hl 0 rfl) ?_
      refine va_get (D := D) (ci := 7) (v := .int ((5 : Int32) + p0)) (C := RX3) (T := TX3) (N := 12) hx hb hts hiRX3 hown hK hP 0 rfl rfl 10 (by decide) (hts (.fieldLink RX3 214 "Towerliftry" "slowUntil" "I") (by decide +kernel)) (fun _ h9 => h9) rfl dX3_quake_41 ?_
      refine W.widen (k := 1) (n := 6) (Nat.le_of_ble_eq_true rfl) (Nat.le_of_ble_eq_true rfl) ?_
      have hP9 := hP.sub (ws' := []) [] rfl
      have hD9 := hD.sub (ws' := []) [] (by decide) rfl
      have hK9 := hK.sub (tys' := []) [] rfl
      refine vx_ret ?_
      exact W.iret (v := (5 : Int32) + p0) hx hb hr (fun t ht hW => ⟨⟨(5 : Int32) + p0, ([], []), rfl, ⟨⟨c_1, c_2⟩, rfl, rfl⟩, by rw [ht]; exact hP9, va_K.moved hW.alike hK9, hD9⟩, hS.F ht⟩) hS.2.2 dX3_quake_44
    · obtain ⟨sa, hstr⟩ := tw_str hF (q := (212, "the slow ticks are out of range")) (by decide)
      have hP9 := hP.sub (ws' := []) [] rfl
      have hD9 := hD.sub (ws' := []) [] (by decide) rfl
      have hK9 := hK.sub (tys' := []) [] rfl
      exact vx_throwS hx hb hst (own := RX3) (cls := "java/lang/IllegalArgumentException") (text := "the slow ticks are out of range") (names := ["java/lang/RuntimeException", "java/lang/Exception"]) (ik := 37) (is := 212) (ic := 41) hown (by decide +kernel) (by decide +kernel) (hts (.classLink RX3 37 "java/lang/IllegalArgumentException") (by decide +kernel)) (hts (.initialized "java/lang/IllegalArgumentException") (by decide +kernel)) hstr (tw_hat hF (fun w h => hts w (hx41 w h)) (by decide +kernel)) (by decide +kernel) hF.1 hF.2.1 hS (hl.1.trans hml.symm) dX3_quake_10 dX3_quake_13 dX3_quake_14 dX3_quake_16 dX3_quake_19 (fun x9 h9 => (htab x9 h9).elim) (Nat.le_of_ble_eq_true rfl) (Nat.le_of_ble_eq_true rfl) (Nat.le_of_ble_eq_true rfl) (Nat.le_of_ble_eq_true rfl) hlocks (tw_exc hP9 hK9 hD9 hS _ ⟨(Or.inr (⟨c_1, c_2⟩)), rfl⟩) hS.2.2 (Nat.le_of_ble_eq_true rfl) (Nat.le_of_ble_eq_true rfl)
set_option maxHeartbeats 4000000 in
set_option maxRecDepth 100000 in
theorem c_X3_energy (l : Launch) (hst : l.stackTraces = false) (em kw kb : Nat) (D : va_G) (x : Nat) (c1 : Nat) (ps1 : Nat) (lg : Nat) (sz : Nat) : Met l yX3_energy wsX3_energy ({ frames := 0, cells := 0, slots := 0, locals := 0 }) (va_Pc [.ref x] (tw_Pre em kw kb D sz [(x, .inr (7, [.ref c1, .ref ps1, .ref lg, .int 9, .int 99, .int 0, .int 0, .int 0, .int ((-1)), .int 0, .int 0, .long 0]))] [])) (va_Ql (fun (r : Int64) (u : tw_U) => r = 0 ∧ u = ([], [])) (tw_B D (va_A [(x, .inr (7, [.ref c1, .ref ps1, .ref lg, .int 9, .int 99, .int 0, .int 0, .int 0, .int ((-1)), .int 0, .int 0, .long 0]))] sz)) (va_A [(x, .inr (7, [.ref c1, .ref ps1, .ref lg, .int 9, .int 99, .int 0, .int 0, .int 0, .int ((-1)), .int 0, .int 0, .long 0]))] sz)) 0 0 (va_A [(x, .inr (7, [.ref c1, .ref ps1, .ref lg, .int 9, .int 99, .int 0, .int 0, .int 0, .int ((-1)), .int 0, .int 0, .long 0]))] sz) := by
  refine Met.ofW (cc := cX3_energy) (maxL := 1) (ret := (some .long)) (by decide) rfl ?_
  intro p e s m args below meth c s₁ B hml hv
  obtain ⟨rfl, hsz, hP, hK, hD0, hF⟩ := hv
  have hx := B.exec
  have hb := B.bytes
  have hr := B.returns
  have hts := atoms_spec (ws := wsX3_energy) B.pre
  have hown : s.vm.findClass RX3 = some m.cls := findClass_of_methodNamed B.named
  have hlocks := B.notSynchronized
  have hiRX3 : ∀ w ∈ u_ws RX3 TX3 12, w ∈ wsX3_energy := by decide +kernel
  subst hsz
  have hD := hD0.self (sz := s.heap.size)
  generalize hAe : va_A [(x, .inr (7, [.ref c1, .ref ps1, .ref lg, .int 9, .int 99, .int 0, .int 0, .int 0, .int ((-1)), .int 0, .int 0, .long 0]))] s.heap.size = A at hD hF ⊢
  have hA : ∀ q : Nat, s.heap.size ≤ q → A q := fun q h => by rw [← hAe]; exact Or.inr h
  have hS : va_S A s.heap s.heap [] := va_S.rf
  have hP : va_P D vwCl [(x, .inr (7, [.ref c1, .ref ps1, .ref lg, .int 9, .int 99, .int 0, .int 0, .int 0, .int ((-1)), .int 0, .int 0, .long 0]))] s.heap := hP
  have hl := lv_entry ([.ref x]) (n := 1) (Nat.le_of_ble_eq_true rfl)
  rw [lg_entry_eq]
  generalize (lg_sl ([.ref x]) ++ List.replicate (1 - (lg_sl ([.ref x])).length) Slot.unset).toArray = ls at hl ⊢
  have hl : lv_has ls 1 [(0, .ref x)] := hl
  refine lv_aload_n hx hb dX3_energy_0 rfl (lv_at hl 0 rfl) ?_
  refine va_get (D := D) (ci := 7) (v := .long 0) (C := RX3) (T := TX3) (N := 12) hx hb hts hiRX3 hown hK hP 0 rfl rfl 11 (by decide) (hts (.fieldLink RX3 217 "Towerliftry" "used" "J") (by decide +kernel)) (fun _ h9 => h9) rfl dX3_energy_1 ?_
  refine W.widen (k := 0) (n := 0) (Nat.le_of_ble_eq_true rfl) (Nat.le_of_ble_eq_true rfl) ?_
  have hP9 := hP.sub (ws' := []) [] rfl
  have hD9 := hD.sub (ws' := []) [] (by decide) rfl
  have hK9 := hK.sub (tys' := []) [] rfl
  exact W.lret (v := 0) hx hb hr (fun t ht hW => ⟨⟨0, ([], []), rfl, ⟨rfl, rfl⟩, by rw [ht]; exact hP9, va_K.moved hW.alike hK9, hD9⟩, hS.F ht⟩) hS.2.2 dX3_energy_4
set_option maxHeartbeats 4000000 in
set_option maxRecDepth 100000 in
theorem c_X3_entries (l : Launch) (hst : l.stackTraces = false) (em kw kb : Nat) (D : va_G) (x : Nat) (c1 : Nat) (ps1 : Nat) (lg : Nat) (en : Nat) (sz : Nat) : Met l yX3_entries wsX3_entries ({ frames := 0, cells := 0, slots := 0, locals := 0 }) (va_Pc [.ref x] (tw_Pre em kw kb D sz [(x, .inr (7, [.ref c1, .ref ps1, .ref lg, .int 9, .int 99, .int 0, .int 0, .int 0, .int ((-1)), .int 0, .int 0, .long 0])), (lg, .inr (5, [.ref en, .int 0]))] [])) (va_Qi (fun (r : Int32) (u : tw_U) => r = 0 ∧ u = ([], [])) (tw_B D (va_A [(x, .inr (7, [.ref c1, .ref ps1, .ref lg, .int 9, .int 99, .int 0, .int 0, .int 0, .int ((-1)), .int 0, .int 0, .long 0])), (lg, .inr (5, [.ref en, .int 0]))] sz)) (va_A [(x, .inr (7, [.ref c1, .ref ps1, .ref lg, .int 9, .int 99, .int 0, .int 0, .int 0, .int ((-1)), .int 0, .int 0, .long 0])), (lg, .inr (5, [.ref en, .int 0]))] sz)) 0 0 (va_A [(x, .inr (7, [.ref c1, .ref ps1, .ref lg, .int 9, .int 99, .int 0, .int 0, .int 0, .int ((-1)), .int 0, .int 0, .long 0])), (lg, .inr (5, [.ref en, .int 0]))] sz) := by
  refine Met.ofW (cc := cX3_entries) (maxL := 1) (ret := (some .int)) (by decide) rfl ?_
  intro p e s m args below meth c s₁ B hml hv
  obtain ⟨rfl, hsz, hP, hK, hD0, hF⟩ := hv
  have hx := B.exec
  have hb := B.bytes
  have hr := B.returns
  have hts := atoms_spec (ws := wsX3_entries) B.pre
  have hown : s.vm.findClass RX3 = some m.cls := findClass_of_methodNamed B.named
  have hlocks := B.notSynchronized
  have hiRX3 : ∀ w ∈ u_ws RX3 TX3 12, w ∈ wsX3_entries := by decide +kernel
  have hiRX1 : ∀ w ∈ u_ws RX1 TX1 2, w ∈ wsX3_entries := by decide +kernel
  subst hsz
  have hD := hD0.self (sz := s.heap.size)
  generalize hAe : va_A [(x, .inr (7, [.ref c1, .ref ps1, .ref lg, .int 9, .int 99, .int 0, .int 0, .int 0, .int ((-1)), .int 0, .int 0, .long 0])), (lg, .inr (5, [.ref en, .int 0]))] s.heap.size = A at hD hF ⊢
  have hA : ∀ q : Nat, s.heap.size ≤ q → A q := fun q h => by rw [← hAe]; exact Or.inr h
  have hS : va_S A s.heap s.heap [] := va_S.rf
  have hP : va_P D vwCl [(x, .inr (7, [.ref c1, .ref ps1, .ref lg, .int 9, .int 99, .int 0, .int 0, .int 0, .int ((-1)), .int 0, .int 0, .long 0])), (lg, .inr (5, [.ref en, .int 0]))] s.heap := hP
  have hl := lv_entry ([.ref x]) (n := 1) (Nat.le_of_ble_eq_true rfl)
  rw [lg_entry_eq]
  generalize (lg_sl ([.ref x]) ++ List.replicate (1 - (lg_sl ([.ref x])).length) Slot.unset).toArray = ls at hl ⊢
  have hl : lv_has ls 1 [(0, .ref x)] := hl
  refine lv_aload_n hx hb dX3_entries_0 rfl (lv_at hl 0 rfl) ?_
  refine va_get (D := D) (ci := 7) (v := .ref lg) (C := RX3) (T := TX3) (N := 12) hx hb hts hiRX3 hown hK hP 0 rfl rfl 2 (by decide) (hts (.fieldLink RX3 22 "Towerliftry" "log" "LTowerliftry$Log;") (by decide +kernel)) (fun _ h9 => h9) rfl dX3_entries_1 ?_
  refine va_get (D := D) (ci := 5) (v := .int 0) (C := RX1) (T := TX1) (N := 2) hx hb hts hiRX1 hown hK hP 1 rfl rfl 1 (by decide) (hts (.fieldLink RX3 221 "Towerliftry$Log" "size" "I") (by decide +kernel)) (fun _ h9 => h9) rfl dX3_entries_4 ?_
  refine W.widen (k := 0) (n := 0) (Nat.le_of_ble_eq_true rfl) (Nat.le_of_ble_eq_true rfl) ?_
  have hP9 := hP.sub (ws' := []) [] rfl
  have hD9 := hD.sub (ws' := []) [] (by decide) rfl
  have hK9 := hK.sub (tys' := []) [] rfl
  exact W.iret (v := 0) hx hb hr (fun t ht hW => ⟨⟨0, ([], []), rfl, ⟨rfl, rfl⟩, by rw [ht]; exact hP9, va_K.moved hW.alike hK9, hD9⟩, hS.F ht⟩) hS.2.2 dX3_entries_7
set_option maxHeartbeats 4000000 in
set_option maxRecDepth 100000 in
theorem c_X3_entryAt (l : Launch) (hst : l.stackTraces = false) (em kw kb : Nat) (D : va_G) (x : Nat) (p0 : Int32) (c1 : Nat) (ps1 : Nat) (lg : Nat) (en : Nat) (sz : Nat) : vx_Met l yX3_entryAt wsX3_entryAt ({ frames := 7, cells := 1, slots := 6, locals := 103 }) (va_Pc [.ref x, .int p0] (tw_Pre em kw kb D sz [(x, .inr (7, [.ref c1, .ref ps1, .ref lg, .int 9, .int 99, .int 0, .int 0, .int 0, .int ((-1)), .int 0, .int 0, .long 0])), (lg, .inr (5, [.ref en, .int 0]))] [])) (va_Qi (fun (r : Int32) (u : tw_U) => False) (tw_B D (va_A [(x, .inr (7, [.ref c1, .ref ps1, .ref lg, .int 9, .int 99, .int 0, .int 0, .int 0, .int ((-1)), .int 0, .int 0, .long 0])), (lg, .inr (5, [.ref en, .int 0]))] sz)) (va_A [(x, .inr (7, [.ref c1, .ref ps1, .ref lg, .int 9, .int 99, .int 0, .int 0, .int 0, .int ((-1)), .int 0, .int 0, .long 0])), (lg, .inr (5, [.ref en, .int 0]))] sz)) (vx_X (fun (u : String × tw_U) => u = ("java/lang/IndexOutOfBoundsException", (([], []) : tw_U))) (tw_BX D (va_A [(x, .inr (7, [.ref c1, .ref ps1, .ref lg, .int 9, .int 99, .int 0, .int 0, .int 0, .int ((-1)), .int 0, .int 0, .long 0])), (lg, .inr (5, [.ref en, .int 0]))] sz)) (va_A [(x, .inr (7, [.ref c1, .ref ps1, .ref lg, .int 9, .int 99, .int 0, .int 0, .int 0, .int ((-1)), .int 0, .int 0, .long 0])), (lg, .inr (5, [.ref en, .int 0]))] sz)) 1 6 (va_A [(x, .inr (7, [.ref c1, .ref ps1, .ref lg, .int 9, .int 99, .int 0, .int 0, .int 0, .int ((-1)), .int 0, .int 0, .long 0])), (lg, .inr (5, [.ref en, .int 0]))] sz) := by
  refine vx_ofW (cc := cX3_entryAt) (maxL := 2) (ret := (some .char)) (by decide) rfl ?_
  intro p e s m args below meth c s₁ B hml htab hv
  obtain ⟨rfl, hsz, hP, hK, hD0, hF⟩ := hv
  have hx := B.exec
  have hb := B.bytes
  have hr := B.returns
  have hts := atoms_spec (ws := wsX3_entryAt) B.pre
  have hown : s.vm.findClass RX3 = some m.cls := findClass_of_methodNamed B.named
  have hlocks := B.notSynchronized
  subst hsz
  have hD := hD0.self (sz := s.heap.size)
  generalize hAe : va_A [(x, .inr (7, [.ref c1, .ref ps1, .ref lg, .int 9, .int 99, .int 0, .int 0, .int 0, .int ((-1)), .int 0, .int 0, .long 0])), (lg, .inr (5, [.ref en, .int 0]))] s.heap.size = A at hD hF ⊢
  have hA : ∀ q : Nat, s.heap.size ≤ q → A q := fun q h => by rw [← hAe]; exact Or.inr h
  have hS : va_S A s.heap s.heap [] := va_S.rf
  have hP : va_P D vwCl [(x, .inr (7, [.ref c1, .ref ps1, .ref lg, .int 9, .int 99, .int 0, .int 0, .int 0, .int ((-1)), .int 0, .int 0, .long 0])), (lg, .inr (5, [.ref en, .int 0]))] s.heap := hP
  have hl := lv_entry ([.ref x, .int p0]) (n := 2) (Nat.le_of_ble_eq_true rfl)
  rw [lg_entry_eq]
  generalize (lg_sl ([.ref x, .int p0]) ++ List.replicate (2 - (lg_sl ([.ref x, .int p0])).length) Slot.unset).toArray = ls at hl ⊢
  have hl : lv_has ls 2 [(0, .ref x), (1, .int p0)] := hl
  refine lv_aload_n hx hb dX3_entryAt_0 rfl (lv_at hl 0 rfl) ?_
  refine lv_iload_n hx hb dX3_entryAt_1 rfl (lv_at hl 1 rfl) ?_
  have hPc := hP.sub (ws' := [(x, .inr (7, [.ref c1, .ref ps1, .ref lg, .int 9, .int 99, .int 0, .int 0, .int 0, .int ((-1)), .int 0, .int 0, .long 0])), (lg, .inr (5, [.ref en, .int 0]))]) [0, 1] rfl
  have hDc := hD.sub (ws' := [(x, .inr (7, [.ref c1, .ref ps1, .ref lg, .int 9, .int 99, .int 0, .int 0, .int 0, .int ((-1)), .int 0, .int 0, .long 0])), (lg, .inr (5, [.ref en, .int 0]))]) [0, 1] (by decide) rfl
  have hKc := hK.sub (tys' := []) [] rfl
  have hFc := va_free (wc := [(x, .inr (7, [.ref c1, .ref ps1, .ref lg, .int 9, .int 99, .int 0, .int 0, .int 0, .int ((-1)), .int 0, .int 0, .long 0])), (lg, .inr (5, [.ref en, .int 0]))]) hD hS hA [0, 1] rfl
  refine vx_callv (vx_runV (As := [.int p0]) (rest := []) ⟨hx, hb, hml, hown, hts⟩ (c_X3_checkEntry l hst em kw kb D x p0 c1 ps1 lg en _) (cwV 1 hts gX3_entryAt_X3_checkEntry rfl rfl rfl (by decide +kernel) ⟨(Nat.le_of_ble_eq_true rfl), (Nat.le_of_ble_eq_true rfl)⟩) (tw_preV hF hS hFc hPc hKc hDc (va_recv hKc hPc (ci := 7) (q0 := 0) rfl rfl)) rfl rfl hl.1 rfl (lv_room (Nat.le_of_ble_eq_true rfl)) dX3_entryAt_2 ⟨(Nat.le_of_ble_eq_true rfl), (Nat.le_of_ble_eq_true rfl)⟩) hS (fun q _ h => hFc q h) hFc (fun q _ h => hFc q h) (fun E ce q9 u t H locs ht hvm hw hB hz1 hk1 hS hce hcv hcl => ?_) (fun u t H locs ht hvm hw hB hz1 hk1 hS => ?_)
  · obtain ⟨hE, hB⟩ := hB
    subst hw
    subst hE
    obtain ⟨hP, hD, hK⟩ := tw_join (wr := []) hP hD hK [0, 1] [] rfl rfl (by decide) (by decide) hk1 hFc ht hvm hB
    have hP : va_P D vwCl [(x, .inr (7, [.ref c1, .ref ps1, .ref lg, .int 9, .int 99, .int 0, .int 0, .int 0, .int ((-1)), .int 0, .int 0, .long 0])), (lg, .inr (5, [.ref en, .int 0]))] _ := hP
    have hD : va_D A [(x, .inr (7, [.ref c1, .ref ps1, .ref lg, .int 9, .int 99, .int 0, .int 0, .int 0, .int ((-1)), .int 0, .int 0, .long 0])), (lg, .inr (5, [.ref en, .int 0]))] := hD
    have hK : va_K D vwCl [] s := hK
    refine vx_widen (k := 1) (n := 6) (Nat.le_of_ble_eq_true rfl) (Nat.le_of_ble_eq_true rfl) ?_
    have hP9 := hP.sub (ws' := []) [] rfl
    have hD9 := hD.sub (ws' := []) [] (by decide) rfl
    have hK9 := hK.sub (tys' := []) [] rfl
    exact vx_out (fun x9 h9 => (htab x9 h9).elim) hlocks hce hcv hcl (tw_exc2 hP9 hK9 hD9 hS _ rfl) hS.2.2 (Nat.le_refl _) (Nat.le_refl _)
  · exact hw.elim
set_option maxHeartbeats 4000000 in
set_option maxRecDepth 100000 in
theorem c_X3_entryOf (l : Launch) (hst : l.stackTraces = false) (em kw kb : Nat) (D : va_G) (x : Nat) (p0 : Int32) (p1 : Int32) (c1 : Nat) (ps1 : Nat) (lg : Nat) (en : Nat) (sz : Nat) : vx_Met l yX3_entryOf wsX3_entryOf ({ frames := 7, cells := 1, slots := 6, locals := 103 }) (va_Pc [.ref x, .int p0, .int p1] (tw_Pre em kw kb D sz [(x, .inr (7, [.ref c1, .ref ps1, .ref lg, .int 9, .int 99, .int 0, .int 0, .int 0, .int ((-1)), .int 0, .int 0, .long 0])), (lg, .inr (5, [.ref en, .int 0]))] [])) (va_Qi (fun (r : Int32) (u : tw_U) => False) (tw_B D (va_A [(x, .inr (7, [.ref c1, .ref ps1, .ref lg, .int 9, .int 99, .int 0, .int 0, .int 0, .int ((-1)), .int 0, .int 0, .long 0])), (lg, .inr (5, [.ref en, .int 0]))] sz)) (va_A [(x, .inr (7, [.ref c1, .ref ps1, .ref lg, .int 9, .int 99, .int 0, .int 0, .int 0, .int ((-1)), .int 0, .int 0, .long 0])), (lg, .inr (5, [.ref en, .int 0]))] sz)) (vx_X (fun (u : String × tw_U) => u = ("java/lang/IndexOutOfBoundsException", (([], []) : tw_U))) (tw_BX D (va_A [(x, .inr (7, [.ref c1, .ref ps1, .ref lg, .int 9, .int 99, .int 0, .int 0, .int 0, .int ((-1)), .int 0, .int 0, .long 0])), (lg, .inr (5, [.ref en, .int 0]))] sz)) (va_A [(x, .inr (7, [.ref c1, .ref ps1, .ref lg, .int 9, .int 99, .int 0, .int 0, .int 0, .int ((-1)), .int 0, .int 0, .long 0])), (lg, .inr (5, [.ref en, .int 0]))] sz)) 1 6 (va_A [(x, .inr (7, [.ref c1, .ref ps1, .ref lg, .int 9, .int 99, .int 0, .int 0, .int 0, .int ((-1)), .int 0, .int 0, .long 0])), (lg, .inr (5, [.ref en, .int 0]))] sz) := by
  refine vx_ofW (cc := cX3_entryOf) (maxL := 3) (ret := (some .int)) (by decide) rfl ?_
  intro p e s m args below meth c s₁ B hml htab hv
  obtain ⟨rfl, hsz, hP, hK, hD0, hF⟩ := hv
  have hx := B.exec
  have hb := B.bytes
  have hr := B.returns
  have hts := atoms_spec (ws := wsX3_entryOf) B.pre
  have hown : s.vm.findClass RX3 = some m.cls := findClass_of_methodNamed B.named
  have hlocks := B.notSynchronized
  subst hsz
  have hD := hD0.self (sz := s.heap.size)
  generalize hAe : va_A [(x, .inr (7, [.ref c1, .ref ps1, .ref lg, .int 9, .int 99, .int 0, .int 0, .int 0, .int ((-1)), .int 0, .int 0, .long 0])), (lg, .inr (5, [.ref en, .int 0]))] s.heap.size = A at hD hF ⊢
  have hA : ∀ q : Nat, s.heap.size ≤ q → A q := fun q h => by rw [← hAe]; exact Or.inr h
  have hS : va_S A s.heap s.heap [] := va_S.rf
  have hP : va_P D vwCl [(x, .inr (7, [.ref c1, .ref ps1, .ref lg, .int 9, .int 99, .int 0, .int 0, .int 0, .int ((-1)), .int 0, .int 0, .long 0])), (lg, .inr (5, [.ref en, .int 0]))] s.heap := hP
  have hl := lv_entry ([.ref x, .int p0, .int p1]) (n := 3) (Nat.le_of_ble_eq_true rfl)
  rw [lg_entry_eq]
  generalize (lg_sl ([.ref x, .int p0, .int p1]) ++ List.replicate (3 - (lg_sl ([.ref x, .int p0, .int p1])).length) Slot.unset).toArray = ls at hl ⊢
  have hl : lv_has ls 3 [(0, .ref x), (1, .int p0), (2, .int p1)] := hl
  refine lv_aload_n hx hb dX3_entryOf_0 rfl (lv_at hl 0 rfl) ?_
  refine lv_iload_n hx hb dX3_entryOf_1 rfl (lv_at hl 1 rfl) ?_
  have hPc := hP.sub (ws' := [(x, .inr (7, [.ref c1, .ref ps1, .ref lg, .int 9, .int 99, .int 0, .int 0, .int 0, .int ((-1)), .int 0, .int 0, .long 0])), (lg, .inr (5, [.ref en, .int 0]))]) [0, 1] rfl
  have hDc := hD.sub (ws' := [(x, .inr (7, [.ref c1, .ref ps1, .ref lg, .int 9, .int 99, .int 0, .int 0, .int 0, .int ((-1)), .int 0, .int 0, .long 0])), (lg, .inr (5, [.ref en, .int 0]))]) [0, 1] (by decide) rfl
  have hKc := hK.sub (tys' := []) [] rfl
  have hFc := va_free (wc := [(x, .inr (7, [.ref c1, .ref ps1, .ref lg, .int 9, .int 99, .int 0, .int 0, .int 0, .int ((-1)), .int 0, .int 0, .long 0])), (lg, .inr (5, [.ref en, .int 0]))]) hD hS hA [0, 1] rfl
  refine vx_callv (vx_runV (As := [.int p0]) (rest := []) ⟨hx, hb, hml, hown, hts⟩ (c_X3_checkEntry l hst em kw kb D x p0 c1 ps1 lg en _) (cwV 1 hts gX3_entryOf_X3_checkEntry rfl rfl rfl (by decide +kernel) ⟨(Nat.le_of_ble_eq_true rfl), (Nat.le_of_ble_eq_true rfl)⟩) (tw_preV hF hS hFc hPc hKc hDc (va_recv hKc hPc (ci := 7) (q0 := 0) rfl rfl)) rfl rfl hl.1 rfl (lv_room (Nat.le_of_ble_eq_true rfl)) dX3_entryOf_2 ⟨(Nat.le_of_ble_eq_true rfl), (Nat.le_of_ble_eq_true rfl)⟩) hS (fun q _ h => hFc q h) hFc (fun q _ h => hFc q h) (fun E ce q9 u t H locs ht hvm hw hB hz1 hk1 hS hce hcv hcl => ?_) (fun u t H locs ht hvm hw hB hz1 hk1 hS => ?_)
  · obtain ⟨hE, hB⟩ := hB
    subst hw
    subst hE
    obtain ⟨hP, hD, hK⟩ := tw_join (wr := []) hP hD hK [0, 1] [] rfl rfl (by decide) (by decide) hk1 hFc ht hvm hB
    have hP : va_P D vwCl [(x, .inr (7, [.ref c1, .ref ps1, .ref lg, .int 9, .int 99, .int 0, .int 0, .int 0, .int ((-1)), .int 0, .int 0, .long 0])), (lg, .inr (5, [.ref en, .int 0]))] _ := hP
    have hD : va_D A [(x, .inr (7, [.ref c1, .ref ps1, .ref lg, .int 9, .int 99, .int 0, .int 0, .int 0, .int ((-1)), .int 0, .int 0, .long 0])), (lg, .inr (5, [.ref en, .int 0]))] := hD
    have hK : va_K D vwCl [] s := hK
    refine vx_widen (k := 1) (n := 6) (Nat.le_of_ble_eq_true rfl) (Nat.le_of_ble_eq_true rfl) ?_
    have hP9 := hP.sub (ws' := []) [] rfl
    have hD9 := hD.sub (ws' := []) [] (by decide) rfl
    have hK9 := hK.sub (tys' := []) [] rfl
    exact vx_out (fun x9 h9 => (htab x9 h9).elim) hlocks hce hcv hcl (tw_exc2 hP9 hK9 hD9 hS _ rfl) hS.2.2 (Nat.le_refl _) (Nat.le_refl _)
  · exact hw.elim
set_option maxHeartbeats 4000000 in
set_option maxRecDepth 100000 in
theorem c_X3_people (l : Launch) (hst : l.stackTraces = false) (em kw kb : Nat) (D : va_G) (x : Nat) (p0 : Int32) (c1 : Nat) (ps1 : Nat) (lg : Nat) (sz : Nat) : vx_Met l yX3_people wsX3_people ({ frames := 6, cells := 1, slots := 6, locals := 82 }) (va_Pc [.ref x, .int p0] (tw_Pre em kw kb D sz [(x, .inr (7, [.ref c1, .ref ps1, .ref lg, .int 9, .int 99, .int 0, .int 0, .int 0, .int ((-1)), .int 0, .int 0, .long 0])), (ps1, .inr (3, [.int 0, .ref em, .int 0]))] [])) (va_Qi (fun (r : Int32) (u : tw_U) => ((p0 = 119) ∨ (¬ p0 = 119 ∧ p0 = 105) ∨ (¬ p0 = 119 ∧ ¬ p0 = 105 ∧ p0 = 100) ∨ (¬ p0 = 119 ∧ ¬ p0 = 105 ∧ ¬ p0 = 100 ∧ p0 = 115) ∨ (¬ p0 = 119 ∧ ¬ p0 = 105 ∧ ¬ p0 = 100 ∧ ¬ p0 = 115 ∧ p0 = 114)) ∧ r = 0 ∧ u = ([], [])) (tw_B D (va_A [(x, .inr (7, [.ref c1, .ref ps1, .ref lg, .int 9, .int 99, .int 0, .int 0, .int 0, .int ((-1)), .int 0, .int 0, .long 0])), (ps1, .inr (3, [.int 0, .ref em, .int 0]))] sz)) (va_A [(x, .inr (7, [.ref c1, .ref ps1, .ref lg, .int 9, .int 99, .int 0, .int 0, .int 0, .int ((-1)), .int 0, .int 0, .long 0])), (ps1, .inr (3, [.int 0, .ref em, .int 0]))] sz)) (vx_X (fun (u : String × tw_U) => (¬ p0 = 119 ∧ ¬ p0 = 105 ∧ ¬ p0 = 100 ∧ ¬ p0 = 115 ∧ ¬ p0 = 114) ∧ u = ("java/lang/IllegalArgumentException", (([], []) : tw_U))) (tw_BX D (va_A [(x, .inr (7, [.ref c1, .ref ps1, .ref lg, .int 9, .int 99, .int 0, .int 0, .int 0, .int ((-1)), .int 0, .int 0, .long 0])), (ps1, .inr (3, [.int 0, .ref em, .int 0]))] sz)) (va_A [(x, .inr (7, [.ref c1, .ref ps1, .ref lg, .int 9, .int 99, .int 0, .int 0, .int 0, .int ((-1)), .int 0, .int 0, .long 0])), (ps1, .inr (3, [.int 0, .ref em, .int 0]))] sz)) 1 6 (va_A [(x, .inr (7, [.ref c1, .ref ps1, .ref lg, .int 9, .int 99, .int 0, .int 0, .int 0, .int ((-1)), .int 0, .int 0, .long 0])), (ps1, .inr (3, [.int 0, .ref em, .int 0]))] sz) := by
  refine vx_ofW (cc := cX3_people) (maxL := 2) (ret := (some .int)) (by decide) rfl ?_
  intro p e s m args below meth c s₁ B hml htab hv
  obtain ⟨rfl, hsz, hP, hK, hD0, hF⟩ := hv
  have hx := B.exec
  have hb := B.bytes
  have hr := B.returns
  have hts := atoms_spec (ws := wsX3_people) B.pre
  have hown : s.vm.findClass RX3 = some m.cls := findClass_of_methodNamed B.named
  have hlocks := B.notSynchronized
  have hx41 : ∀ w ∈ (vx_atS RX3 41 "java/lang/IllegalArgumentException" ["java/lang/RuntimeException", "java/lang/Exception"]).filter goodWord, w ∈ wsX3_people := by decide +kernel
  subst hsz
  have hD := hD0.self (sz := s.heap.size)
  generalize hAe : va_A [(x, .inr (7, [.ref c1, .ref ps1, .ref lg, .int 9, .int 99, .int 0, .int 0, .int 0, .int ((-1)), .int 0, .int 0, .long 0])), (ps1, .inr (3, [.int 0, .ref em, .int 0]))] s.heap.size = A at hD hF ⊢
  have hA : ∀ q : Nat, s.heap.size ≤ q → A q := fun q h => by rw [← hAe]; exact Or.inr h
  have hS : va_S A s.heap s.heap [] := va_S.rf
  have hP : va_P D vwCl [(x, .inr (7, [.ref c1, .ref ps1, .ref lg, .int 9, .int 99, .int 0, .int 0, .int 0, .int ((-1)), .int 0, .int 0, .long 0])), (ps1, .inr (3, [.int 0, .ref em, .int 0]))] s.heap := hP
  have hl := lv_entry ([.ref x, .int p0]) (n := 2) (Nat.le_of_ble_eq_true rfl)
  rw [lg_entry_eq]
  generalize (lg_sl ([.ref x, .int p0]) ++ List.replicate (2 - (lg_sl ([.ref x, .int p0])).length) Slot.unset).toArray = ls at hl ⊢
  have hl : lv_has ls 2 [(0, .ref x), (1, .int p0)] := hl
  refine lv_iload_n hx hb dX3_people_0 rfl (lv_at hl 1 rfl) ?_
  refine lv_bipush (v := 119) hx hb dX3_people_1 (by decide) ?_
  refine lv_icmp_eq (tgt := 40) hx hb dX3_people_3 (by decide) (fun c_1 => ?_) (fun c_1 => ?_)
  · refine lv_aload_n hx hb dX3_people_40 rfl (lv_at hl 0 rfl) ?_
    refine lv_iload_n hx hb dX3_people_41 rfl (lv_at hl 1 rfl) ?_
    have hPc := hP.sub (ws' := [(x, .inr (7, [.ref c1, .ref ps1, .ref lg, .int 9, .int 99, .int 0, .int 0, .int 0, .int ((-1)), .int 0, .int 0, .long 0])), (ps1, .inr (3, [.int 0, .ref em, .int 0]))]) [0, 1] rfl
    have hDc := hD.sub (ws' := [(x, .inr (7, [.ref c1, .ref ps1, .ref lg, .int 9, .int 99, .int 0, .int 0, .int 0, .int ((-1)), .int 0, .int 0, .long 0])), (ps1, .inr (3, [.int 0, .ref em, .int 0]))]) [0, 1] (by decide) rfl
    have hKc := hK.sub (tys' := []) [] rfl
    have hFc := va_free (wc := [(x, .inr (7, [.ref c1, .ref ps1, .ref lg, .int 9, .int 99, .int 0, .int 0, .int 0, .int ((-1)), .int 0, .int 0, .long 0])), (ps1, .inr (3, [.int 0, .ref em, .int 0]))]) hD hS hA [0, 1] rfl
    refine va_calli (va_runV (As := [.int p0]) (rest := []) ⟨hx, hb, hml, hown, hts⟩ (c_X3_countIn l hst em kw kb D x p0 c1 ps1 lg _) (cwV 1 hts gX3_people_X3_countIn rfl rfl rfl (by decide +kernel) ⟨(Nat.le_of_ble_eq_true rfl), (Nat.le_of_ble_eq_true rfl)⟩) (tw_preV hF hS hFc hPc hKc hDc (va_recv hKc hPc (ci := 7) (q0 := 0) rfl rfl)) rfl rfl hl.1 rfl (lv_room (Nat.le_of_ble_eq_true rfl)) dX3_people_42 ⟨(Nat.le_of_ble_eq_true rfl), (Nat.le_of_ble_eq_true rfl)⟩) hS (fun q _ h => hFc q h) hFc (fun r u t H locs ht hvm hw hB hz1 hk1 hS => ?_)
    obtain ⟨rfl, rfl⟩ := hw
    obtain ⟨hP, hD, hK⟩ := tw_join (wr := []) hP hD hK [0, 1] [] rfl rfl (by decide) (by decide) hk1 hFc ht hvm hB
    have hP : va_P D vwCl [(x, .inr (7, [.ref c1, .ref ps1, .ref lg, .int 9, .int 99, .int 0, .int 0, .int 0, .int ((-1)), .int 0, .int 0, .long 0])), (ps1, .inr (3, [.int 0, .ref em, .int 0]))] _ := hP
    have hD : va_D A [(x, .inr (7, [.ref c1, .ref ps1, .ref lg, .int 9, .int 99, .int 0, .int 0, .int 0, .int ((-1)), .int 0, .int 0, .long 0])), (ps1, .inr (3, [.int 0, .ref em, .int 0]))] := hD
    have hK : va_K D vwCl [] s := hK
    refine W.widen (k := 0) (n := 0) (Nat.le_refl _) (Nat.le_refl _) ?_
    refine W.eq (g2 := F0 m 45 ls [.int 0]) rfl ?_
    refine W.widen (k := 1) (n := 6) (Nat.le_of_ble_eq_true rfl) (Nat.le_of_ble_eq_true rfl) ?_
    have hP9 := hP.sub (ws' := []) [] rfl
    have hD9 := hD.sub (ws' := []) [] (by decide) rfl
    have hK9 := hK.sub (tys' := []) [] rfl
    refine vx_ret ?_
    exact W.iret (v := 0) hx hb hr (fun t ht hW => ⟨⟨0, ([], []), rfl, ⟨(Or.inl c_1), rfl, rfl⟩, by rw [ht]; exact hP9, va_K.moved hW.alike hK9, hD9⟩, hS.F ht⟩) hS.2.2 dX3_people_45
  · refine lv_iload_n hx hb dX3_people_6 rfl (lv_at hl 1 rfl) ?_
    refine lv_bipush (v := 105) hx hb dX3_people_7 (by decide) ?_
    refine lv_icmp_eq (tgt := 40) hx hb dX3_people_9 (by decide) (fun c_2 => ?_) (fun c_2 => ?_)
    · refine lv_aload_n hx hb dX3_people_40 rfl (lv_at hl 0 rfl) ?_
      refine lv_iload_n hx hb dX3_people_41 rfl (lv_at hl 1 rfl) ?_
      have hPc := hP.sub (ws' := [(x, .inr (7, [.ref c1, .ref ps1, .ref lg, .int 9, .int 99, .int 0, .int 0, .int 0, .int ((-1)), .int 0, .int 0, .long 0])), (ps1, .inr (3, [.int 0, .ref em, .int 0]))]) [0, 1] rfl
      have hDc := hD.sub (ws' := [(x, .inr (7, [.ref c1, .ref ps1, .ref lg, .int 9, .int 99, .int 0, .int 0, .int 0, .int ((-1)), .int 0, .int 0, .long 0])), (ps1, .inr (3, [.int 0, .ref em, .int 0]))]) [0, 1] (by decide) rfl
      have hKc := hK.sub (tys' := []) [] rfl
      have hFc := va_free (wc := [(x, .inr (7, [.ref c1, .ref ps1, .ref lg, .int 9, .int 99, .int 0, .int 0, .int 0, .int ((-1)), .int 0, .int 0, .long 0])), (ps1, .inr (3, [.int 0, .ref em, .int 0]))]) hD hS hA [0, 1] rfl
      refine va_calli (va_runV (As := [.int p0]) (rest := []) ⟨hx, hb, hml, hown, hts⟩ (c_X3_countIn l hst em kw kb D x p0 c1 ps1 lg _) (cwV 1 hts gX3_people_X3_countIn rfl rfl rfl (by decide +kernel) ⟨(Nat.le_of_ble_eq_true rfl), (Nat.le_of_ble_eq_true rfl)⟩) (tw_preV hF hS hFc hPc hKc hDc (va_recv hKc hPc (ci := 7) (q0 := 0) rfl rfl)) rfl rfl hl.1 rfl (lv_room (Nat.le_of_ble_eq_true rfl)) dX3_people_42 ⟨(Nat.le_of_ble_eq_true rfl), (Nat.le_of_ble_eq_true rfl)⟩) hS (fun q _ h => hFc q h) hFc (fun r u t H locs ht hvm hw hB hz1 hk1 hS => ?_)
      obtain ⟨rfl, rfl⟩ := hw
      obtain ⟨hP, hD, hK⟩ := tw_join (wr := []) hP hD hK [0, 1] [] rfl rfl (by decide) (by decide) hk1 hFc ht hvm hB
      have hP : va_P D vwCl [(x, .inr (7, [.ref c1, .ref ps1, .ref lg, .int 9, .int 99, .int 0, .int 0, .int 0, .int ((-1)), .int 0, .int 0, .long 0])), (ps1, .inr (3, [.int 0, .ref em, .int 0]))] _ := hP
      have hD : va_D A [(x, .inr (7, [.ref c1, .ref ps1, .ref lg, .int 9, .int 99, .int 0, .int 0, .int 0, .int ((-1)), .int 0, .int 0, .long 0])), (ps1, .inr (3, [.int 0, .ref em, .int 0]))] := hD
      have hK : va_K D vwCl [] s := hK
      refine W.widen (k := 0) (n := 0) (Nat.le_refl _) (Nat.le_refl _) ?_
      refine W.eq (g2 := F0 m 45 ls [.int 0]) rfl ?_
      refine W.widen (k := 1) (n := 6) (Nat.le_of_ble_eq_true rfl) (Nat.le_of_ble_eq_true rfl) ?_
      have hP9 := hP.sub (ws' := []) [] rfl
      have hD9 := hD.sub (ws' := []) [] (by decide) rfl
      have hK9 := hK.sub (tys' := []) [] rfl
      refine vx_ret ?_
      exact W.iret (v := 0) hx hb hr (fun t ht hW => ⟨⟨0, ([], []), rfl, ⟨(Or.inr (Or.inl ⟨c_1, c_2⟩)), rfl, rfl⟩, by rw [ht]; exact hP9, va_K.moved hW.alike hK9, hD9⟩, hS.F ht⟩) hS.2.2 dX3_people_45
    · refine lv_iload_n hx hb dX3_people_12 rfl (lv_at hl 1 rfl) ?_
      refine lv_bipush (v := 100) hx hb dX3_people_13 (by decide) ?_
      refine lv_icmp_eq (tgt := 40) hx hb dX3_people_15 (by decide) (fun c_3 => ?_) (fun c_3 => ?_)
      · refine lv_aload_n hx hb dX3_people_40 rfl (lv_at hl 0 rfl) ?_
        refine lv_iload_n hx hb dX3_people_41 rfl (lv_at hl 1 rfl) ?_
        have hPc := hP.sub (ws' := [(x, .inr (7, [.ref c1, .ref ps1, .ref lg, .int 9, .int 99, .int 0, .int 0, .int 0, .int ((-1)), .int 0, .int 0, .long 0])), (ps1, .inr (3, [.int 0, .ref em, .int 0]))]) [0, 1] rfl
        have hDc := hD.sub (ws' := [(x, .inr (7, [.ref c1, .ref ps1, .ref lg, .int 9, .int 99, .int 0, .int 0, .int 0, .int ((-1)), .int 0, .int 0, .long 0])), (ps1, .inr (3, [.int 0, .ref em, .int 0]))]) [0, 1] (by decide) rfl
        have hKc := hK.sub (tys' := []) [] rfl
        have hFc := va_free (wc := [(x, .inr (7, [.ref c1, .ref ps1, .ref lg, .int 9, .int 99, .int 0, .int 0, .int 0, .int ((-1)), .int 0, .int 0, .long 0])), (ps1, .inr (3, [.int 0, .ref em, .int 0]))]) hD hS hA [0, 1] rfl
        refine va_calli (va_runV (As := [.int p0]) (rest := []) ⟨hx, hb, hml, hown, hts⟩ (c_X3_countIn l hst em kw kb D x p0 c1 ps1 lg _) (cwV 1 hts gX3_people_X3_countIn rfl rfl rfl (by decide +kernel) ⟨(Nat.le_of_ble_eq_true rfl), (Nat.le_of_ble_eq_true rfl)⟩) (tw_preV hF hS hFc hPc hKc hDc (va_recv hKc hPc (ci := 7) (q0 := 0) rfl rfl)) rfl rfl hl.1 rfl (lv_room (Nat.le_of_ble_eq_true rfl)) dX3_people_42 ⟨(Nat.le_of_ble_eq_true rfl), (Nat.le_of_ble_eq_true rfl)⟩) hS (fun q _ h => hFc q h) hFc (fun r u t H locs ht hvm hw hB hz1 hk1 hS => ?_)
        obtain ⟨rfl, rfl⟩ := hw
        obtain ⟨hP, hD, hK⟩ := tw_join (wr := []) hP hD hK [0, 1] [] rfl rfl (by decide) (by decide) hk1 hFc ht hvm hB
        have hP : va_P D vwCl [(x, .inr (7, [.ref c1, .ref ps1, .ref lg, .int 9, .int 99, .int 0, .int 0, .int 0, .int ((-1)), .int 0, .int 0, .long 0])), (ps1, .inr (3, [.int 0, .ref em, .int 0]))] _ := hP
        have hD : va_D A [(x, .inr (7, [.ref c1, .ref ps1, .ref lg, .int 9, .int 99, .int 0, .int 0, .int 0, .int ((-1)), .int 0, .int 0, .long 0])), (ps1, .inr (3, [.int 0, .ref em, .int 0]))] := hD
        have hK : va_K D vwCl [] s := hK
        refine W.widen (k := 0) (n := 0) (Nat.le_refl _) (Nat.le_refl _) ?_
        refine W.eq (g2 := F0 m 45 ls [.int 0]) rfl ?_
        refine W.widen (k := 1) (n := 6) (Nat.le_of_ble_eq_true rfl) (Nat.le_of_ble_eq_true rfl) ?_
        have hP9 := hP.sub (ws' := []) [] rfl
        have hD9 := hD.sub (ws' := []) [] (by decide) rfl
        have hK9 := hK.sub (tys' := []) [] rfl
        refine vx_ret ?_
        exact W.iret (v := 0) hx hb hr (fun t ht hW => ⟨⟨0, ([], []), rfl, ⟨(Or.inr (Or.inr (Or.inl ⟨c_1, c_2, c_3⟩))), rfl, rfl⟩, by rw [ht]; exact hP9, va_K.moved hW.alike hK9, hD9⟩, hS.F ht⟩) hS.2.2 dX3_people_45
      · refine lv_iload_n hx hb dX3_people_18 rfl (lv_at hl 1 rfl) ?_
        refine lv_bipush (v := 115) hx hb dX3_people_19 (by decide) ?_
        refine lv_icmp_eq (tgt := 40) hx hb dX3_people_21 (by decide) (fun c_4 => ?_) (fun c_4 => ?_)
        · refine lv_aload_n hx hb dX3_people_40 rfl (lv_at hl 0 rfl) ?_
          refine lv_iload_n hx hb dX3_people_41 rfl (lv_at hl 1 rfl) ?_
          have hPc := hP.sub (ws' := [(x, .inr (7, [.ref c1, .ref ps1, .ref lg, .int 9, .int 99, .int 0, .int 0, .int 0, .int ((-1)), .int 0, .int 0, .long 0])), (ps1, .inr (3, [.int 0, .ref em, .int 0]))]) [0, 1] rfl
          have hDc := hD.sub (ws' := [(x, .inr (7, [.ref c1, .ref ps1, .ref lg, .int 9, .int 99, .int 0, .int 0, .int 0, .int ((-1)), .int 0, .int 0, .long 0])), (ps1, .inr (3, [.int 0, .ref em, .int 0]))]) [0, 1] (by decide) rfl
          have hKc := hK.sub (tys' := []) [] rfl
          have hFc := va_free (wc := [(x, .inr (7, [.ref c1, .ref ps1, .ref lg, .int 9, .int 99, .int 0, .int 0, .int 0, .int ((-1)), .int 0, .int 0, .long 0])), (ps1, .inr (3, [.int 0, .ref em, .int 0]))]) hD hS hA [0, 1] rfl
          refine va_calli (va_runV (As := [.int p0]) (rest := []) ⟨hx, hb, hml, hown, hts⟩ (c_X3_countIn l hst em kw kb D x p0 c1 ps1 lg _) (cwV 1 hts gX3_people_X3_countIn rfl rfl rfl (by decide +kernel) ⟨(Nat.le_of_ble_eq_true rfl), (Nat.le_of_ble_eq_true rfl)⟩) (tw_preV hF hS hFc hPc hKc hDc (va_recv hKc hPc (ci := 7) (q0 := 0) rfl rfl)) rfl rfl hl.1 rfl (lv_room (Nat.le_of_ble_eq_true rfl)) dX3_people_42 ⟨(Nat.le_of_ble_eq_true rfl), (Nat.le_of_ble_eq_true rfl)⟩) hS (fun q _ h => hFc q h) hFc (fun r u t H locs ht hvm hw hB hz1 hk1 hS => ?_)
          obtain ⟨rfl, rfl⟩ := hw
          obtain ⟨hP, hD, hK⟩ := tw_join (wr := []) hP hD hK [0, 1] [] rfl rfl (by decide) (by decide) hk1 hFc ht hvm hB
          have hP : va_P D vwCl [(x, .inr (7, [.ref c1, .ref ps1, .ref lg, .int 9, .int 99, .int 0, .int 0, .int 0, .int ((-1)), .int 0, .int 0, .long 0])), (ps1, .inr (3, [.int 0, .ref em, .int 0]))] _ := hP
          have hD : va_D A [(x, .inr (7, [.ref c1, .ref ps1, .ref lg, .int 9, .int 99, .int 0, .int 0, .int 0, .int ((-1)), .int 0, .int 0, .long 0])), (ps1, .inr (3, [.int 0, .ref em, .int 0]))] := hD
          have hK : va_K D vwCl [] s := hK
          refine W.widen (k := 0) (n := 0) (Nat.le_refl _) (Nat.le_refl _) ?_
          refine W.eq (g2 := F0 m 45 ls [.int 0]) rfl ?_
          refine W.widen (k := 1) (n := 6) (Nat.le_of_ble_eq_true rfl) (Nat.le_of_ble_eq_true rfl) ?_
          have hP9 := hP.sub (ws' := []) [] rfl
          have hD9 := hD.sub (ws' := []) [] (by decide) rfl
          have hK9 := hK.sub (tys' := []) [] rfl
          refine vx_ret ?_
          exact W.iret (v := 0) hx hb hr (fun t ht hW => ⟨⟨0, ([], []), rfl, ⟨(Or.inr (Or.inr (Or.inr (Or.inl ⟨c_1, c_2, c_3, c_4⟩)))), rfl, rfl⟩, by rw [ht]; exact hP9, va_K.moved hW.alike hK9, hD9⟩, hS.F ht⟩) hS.2.2 dX3_people_45
        · refine lv_iload_n hx hb dX3_people_24 rfl (lv_at hl 1 rfl) ?_
          refine lv_bipush (v := 114) hx hb dX3_people_25 (by decide) ?_
          refine lv_icmp_eq (tgt := 40) hx hb dX3_people_27 (by decide) (fun c_5 => ?_) (fun c_5 => ?_)
          · refine lv_aload_n hx hb dX3_people_40 rfl (lv_at hl 0 rfl) ?_
            refine lv_iload_n hx hb dX3_people_41 rfl (lv_at hl 1 rfl) ?_
            have hPc := hP.sub (ws' := [(x, .inr (7, [.ref c1, .ref ps1, .ref lg, .int 9, .int 99, .int 0, .int 0, .int 0, .int ((-1)), .int 0, .int 0, .long 0])), (ps1, .inr (3, [.int 0, .ref em, .int 0]))]) [0, 1] rfl
            have hDc := hD.sub (ws' := [(x, .inr (7, [.ref c1, .ref ps1, .ref lg, .int 9, .int 99, .int 0, .int 0, .int 0, .int ((-1)), .int 0, .int 0, .long 0])), (ps1, .inr (3, [.int 0, .ref em, .int 0]))]) [0, 1] (by decide) rfl
            have hKc := hK.sub (tys' := []) [] rfl
            have hFc := va_free (wc := [(x, .inr (7, [.ref c1, .ref ps1, .ref lg, .int 9, .int 99, .int 0, .int 0, .int 0, .int ((-1)), .int 0, .int 0, .long 0])), (ps1, .inr (3, [.int 0, .ref em, .int 0]))]) hD hS hA [0, 1] rfl
            refine va_calli (va_runV (As := [.int p0]) (rest := []) ⟨hx, hb, hml, hown, hts⟩ (c_X3_countIn l hst em kw kb D x p0 c1 ps1 lg _) (cwV 1 hts gX3_people_X3_countIn rfl rfl rfl (by decide +kernel) ⟨(Nat.le_of_ble_eq_true rfl), (Nat.le_of_ble_eq_true rfl)⟩) (tw_preV hF hS hFc hPc hKc hDc (va_recv hKc hPc (ci := 7) (q0 := 0) rfl rfl)) rfl rfl hl.1 rfl (lv_room (Nat.le_of_ble_eq_true rfl)) dX3_people_42 ⟨(Nat.le_of_ble_eq_true rfl), (Nat.le_of_ble_eq_true rfl)⟩) hS (fun q _ h => hFc q h) hFc (fun r u t H locs ht hvm hw hB hz1 hk1 hS => ?_)
            obtain ⟨rfl, rfl⟩ := hw
            obtain ⟨hP, hD, hK⟩ := tw_join (wr := []) hP hD hK [0, 1] [] rfl rfl (by decide) (by decide) hk1 hFc ht hvm hB
            have hP : va_P D vwCl [(x, .inr (7, [.ref c1, .ref ps1, .ref lg, .int 9, .int 99, .int 0, .int 0, .int 0, .int ((-1)), .int 0, .int 0, .long 0])), (ps1, .inr (3, [.int 0, .ref em, .int 0]))] _ := hP
            have hD : va_D A [(x, .inr (7, [.ref c1, .ref ps1, .ref lg, .int 9, .int 99, .int 0, .int 0, .int 0, .int ((-1)), .int 0, .int 0, .long 0])), (ps1, .inr (3, [.int 0, .ref em, .int 0]))] := hD
            have hK : va_K D vwCl [] s := hK
            refine W.widen (k := 0) (n := 0) (Nat.le_refl _) (Nat.le_refl _) ?_
            refine W.eq (g2 := F0 m 45 ls [.int 0]) rfl ?_
            refine W.widen (k := 1) (n := 6) (Nat.le_of_ble_eq_true rfl) (Nat.le_of_ble_eq_true rfl) ?_
            have hP9 := hP.sub (ws' := []) [] rfl
            have hD9 := hD.sub (ws' := []) [] (by decide) rfl
            have hK9 := hK.sub (tys' := []) [] rfl
            refine vx_ret ?_
            exact W.iret (v := 0) hx hb hr (fun t ht hW => ⟨⟨0, ([], []), rfl, ⟨(Or.inr (Or.inr (Or.inr (Or.inr (⟨c_1, c_2, c_3, c_4, c_5⟩))))), rfl, rfl⟩, by rw [ht]; exact hP9, va_K.moved hW.alike hK9, hD9⟩, hS.F ht⟩) hS.2.2 dX3_people_45
          · obtain ⟨sa, hstr⟩ := tw_str hF (q := (242, "no such state")) (by decide)
            have hP9 := hP.sub (ws' := []) [] rfl
            have hD9 := hD.sub (ws' := []) [] (by decide) rfl
            have hK9 := hK.sub (tys' := []) [] rfl
            exact vx_throwS hx hb hst (own := RX3) (cls := "java/lang/IllegalArgumentException") (text := "no such state") (names := ["java/lang/RuntimeException", "java/lang/Exception"]) (ik := 37) (is := 242) (ic := 41) hown (by decide +kernel) (by decide +kernel) (hts (.classLink RX3 37 "java/lang/IllegalArgumentException") (by decide +kernel)) (hts (.initialized "java/lang/IllegalArgumentException") (by decide +kernel)) hstr (tw_hat hF (fun w h => hts w (hx41 w h)) (by decide +kernel)) (by decide +kernel) hF.1 hF.2.1 hS (hl.1.trans hml.symm) dX3_people_30 dX3_people_33 dX3_people_34 dX3_people_36 dX3_people_39 (fun x9 h9 => (htab x9 h9).elim) (Nat.le_of_ble_eq_true rfl) (Nat.le_of_ble_eq_true rfl) (Nat.le_of_ble_eq_true rfl) (Nat.le_of_ble_eq_true rfl) hlocks (tw_exc hP9 hK9 hD9 hS _ ⟨⟨c_1, c_2, c_3, c_4, c_5⟩, rfl⟩) hS.2.2 (Nat.le_of_ble_eq_true rfl) (Nat.le_of_ble_eq_true rfl)
set_option maxHeartbeats 4000000 in
set_option maxRecDepth 100000 in
theorem c_X3_longest (l : Launch) (hst : l.stackTraces = false) (em kw kb : Nat) (D : va_G) (x : Nat) (c1 : Nat) (ps1 : Nat) (lg : Nat) (sz : Nat) : Met l yX3_longest wsX3_longest ({ frames := 1, cells := 0, slots := 0, locals := 20 }) (va_Pc [.ref x] (tw_Pre em kw kb D sz [(x, .inr (7, [.ref c1, .ref ps1, .ref lg, .int 9, .int 99, .int 0, .int 0, .int 0, .int ((-1)), .int 0, .int 0, .long 0])), (ps1, .inr (3, [.int 0, .ref em, .int 0]))] [])) (va_Qi (fun (r : Int32) (u : tw_U) => r = 0 ∧ u = ([], [])) (tw_B D (va_A [(x, .inr (7, [.ref c1, .ref ps1, .ref lg, .int 9, .int 99, .int 0, .int 0, .int 0, .int ((-1)), .int 0, .int 0, .long 0])), (ps1, .inr (3, [.int 0, .ref em, .int 0]))] sz)) (va_A [(x, .inr (7, [.ref c1, .ref ps1, .ref lg, .int 9, .int 99, .int 0, .int 0, .int 0, .int ((-1)), .int 0, .int 0, .long 0])), (ps1, .inr (3, [.int 0, .ref em, .int 0]))] sz)) 0 0 (va_A [(x, .inr (7, [.ref c1, .ref ps1, .ref lg, .int 9, .int 99, .int 0, .int 0, .int 0, .int ((-1)), .int 0, .int 0, .long 0])), (ps1, .inr (3, [.int 0, .ref em, .int 0]))] sz) := by
  refine Met.ofW (cc := cX3_longest) (maxL := 3) (ret := (some .int)) (by decide) rfl ?_
  intro p e s m args below meth c s₁ B hml hv
  obtain ⟨rfl, hsz, hP, hK, hD0, hF⟩ := hv
  have hx := B.exec
  have hb := B.bytes
  have hr := B.returns
  have hts := atoms_spec (ws := wsX3_longest) B.pre
  have hown : s.vm.findClass RX3 = some m.cls := findClass_of_methodNamed B.named
  have hlocks := B.notSynchronized
  have hiRX3 : ∀ w ∈ u_ws RX3 TX3 12, w ∈ wsX3_longest := by decide +kernel
  subst hsz
  have hD := hD0.self (sz := s.heap.size)
  generalize hAe : va_A [(x, .inr (7, [.ref c1, .ref ps1, .ref lg, .int 9, .int 99, .int 0, .int 0, .int 0, .int ((-1)), .int 0, .int 0, .long 0])), (ps1, .inr (3, [.int 0, .ref em, .int 0]))] s.heap.size = A at hD hF ⊢
  have hA : ∀ q : Nat, s.heap.size ≤ q → A q := fun q h => by rw [← hAe]; exact Or.inr h
  have hS : va_S A s.heap s.heap [] := va_S.rf
  have hP : va_P D vwCl [(x, .inr (7, [.ref c1, .ref ps1, .ref lg, .int 9, .int 99, .int 0, .int 0, .int 0, .int ((-1)), .int 0, .int 0, .long 0])), (ps1, .inr (3, [.int 0, .ref em, .int 0]))] s.heap := hP
  have hl := lv_entry ([.ref x]) (n := 3) (Nat.le_of_ble_eq_true rfl)
  rw [lg_entry_eq]
  generalize (lg_sl ([.ref x]) ++ List.replicate (3 - (lg_sl ([.ref x])).length) Slot.unset).toArray = ls at hl ⊢
  have hl : lv_has ls 3 [(0, .ref x)] := hl
  refine lv_iconst (v := 0) hx hb dX3_longest_0 (by decide) ?_
  refine lv_istore_n (lv' := [(1, .int 0), (0, .ref x)]) hx hb dX3_longest_1 rfl hl (by decide) rfl (fun ls hl => ?_)
  refine lv_iconst (v := 0) hx hb dX3_longest_2 (by decide) ?_
  refine lv_istore_n (lv' := [(2, .int 0), (1, .int 0), (0, .ref x)]) hx hb dX3_longest_3 rfl hl (by decide) rfl (fun ls hl => ?_)
  refine lv_iload_n hx hb dX3_longest_4 rfl (lv_at hl 0 rfl) ?_
  refine lv_aload_n hx hb dX3_longest_5 rfl (lv_at hl 2 rfl) ?_
  refine va_get (D := D) (ci := 7) (v := .ref ps1) (C := RX3) (T := TX3) (N := 12) hx hb hts hiRX3 hown hK hP 0 rfl rfl 1 (by decide) (hts (.fieldLink RX3 16 "Towerliftry" "persons" "Ljava/util/ArrayList;") (by decide +kernel)) (fun _ h9 => h9) rfl dX3_longest_6 ?_
  have hPc := hP.sub (ws' := [(ps1, .inr (3, [.int 0, .ref em, .int 0]))]) [1] rfl
  have hDc := hD.sub (ws' := [(ps1, .inr (3, [.int 0, .ref em, .int 0]))]) [1] (by decide) rfl
  have hKc := hK.sub (tys' := []) [] rfl
  have hFc := va_free (wc := [(ps1, .inr (3, [.int 0, .ref em, .int 0]))]) hD hS hA [1] rfl
  refine va_calli (va_runV (As := []) (rest := [.int 0]) ⟨hx, hb, hml, hown, hts⟩ (c_size0 l hst em kw kb D ps1 em _) (cwV 0 hts gX3_longest_Jx4a65c_size_8abf5 rfl rfl rfl (by decide +kernel) ⟨(Nat.le_of_ble_eq_true rfl), (Nat.le_of_ble_eq_true rfl)⟩) (tw_preV hF hS hFc hPc hKc hDc (va_recv hKc hPc (ci := 3) (q0 := 0) rfl rfl)) rfl rfl hl.1 rfl (lv_room (Nat.le_of_ble_eq_true rfl)) dX3_longest_9 ⟨(Nat.le_of_ble_eq_true rfl), (Nat.le_of_ble_eq_true rfl)⟩) hS (fun q _ h => hFc q h) hFc (fun r u t H locs ht hvm hw hB hz1 hk1 hS => ?_)
  obtain ⟨rfl, rfl⟩ := hw
  obtain ⟨hP, hD, hK⟩ := tw_join (wr := [(x, .inr (7, [.ref c1, .ref ps1, .ref lg, .int 9, .int 99, .int 0, .int 0, .int 0, .int ((-1)), .int 0, .int 0, .long 0]))]) hP hD hK [1] [0] rfl rfl (by decide) (by decide) hk1 hFc ht hvm hB
  have hP : va_P D vwCl [(x, .inr (7, [.ref c1, .ref ps1, .ref lg, .int 9, .int 99, .int 0, .int 0, .int 0, .int ((-1)), .int 0, .int 0, .long 0])), (ps1, .inr (3, [.int 0, .ref em, .int 0]))] _ := hP
  have hD : va_D A [(x, .inr (7, [.ref c1, .ref ps1, .ref lg, .int 9, .int 99, .int 0, .int 0, .int 0, .int ((-1)), .int 0, .int 0, .long 0])), (ps1, .inr (3, [.int 0, .ref em, .int 0]))] := hD
  have hK : va_K D vwCl [] s := hK
  refine W.widen (k := 0) (n := 0) (Nat.le_refl _) (Nat.le_refl _) ?_
  refine W.eq (g2 := F0 m 12 ls [.int 0, .int 0]) rfl ?_
  refine lv_icmp_ge (tgt := 40) hx hb dX3_longest_12 (by decide) (fun c9 => ?_) (fun c9 => absurd c9 (by decide))
  refine lv_iload_n hx hb dX3_longest_40 rfl (lv_at hl 1 rfl) ?_
  refine W.widen (k := 0) (n := 0) (Nat.le_of_ble_eq_true rfl) (Nat.le_of_ble_eq_true rfl) ?_
  have hP9 := hP.sub (ws' := []) [] rfl
  have hD9 := hD.sub (ws' := []) [] (by decide) rfl
  have hK9 := hK.sub (tys' := []) [] rfl
  exact W.iret (v := 0) hx hb hr (fun t ht hW => ⟨⟨0, ([], []), rfl, ⟨rfl, rfl⟩, by rw [ht]; exact hP9, va_K.moved hW.alike hK9, hD9⟩, hS.F ht⟩) hS.2.2 dX3_longest_41
set_option maxHeartbeats 4000000 in
set_option maxRecDepth 100000 in
theorem c_X3_comeShare (l : Launch) (hst : l.stackTraces = false) (em kw kb : Nat) (D : va_G) (x : Nat) (c1 : Nat) (ps1 : Nat) (lg : Nat) (sz : Nat) : vx_Met l yX3_comeShare wsX3_comeShare ({ frames := 6, cells := 1, slots := 6, locals := 82 }) (va_Pc [.ref x] (tw_Pre em kw kb D sz [(x, .inr (7, [.ref c1, .ref ps1, .ref lg, .int 9, .int 99, .int 0, .int 0, .int 0, .int ((-1)), .int 0, .int 0, .long 0])), (ps1, .inr (3, [.int 0, .ref em, .int 0]))] [])) (va_Qf (fun (r : UInt32) (u : tw_U) => False) (tw_B D (va_A [(x, .inr (7, [.ref c1, .ref ps1, .ref lg, .int 9, .int 99, .int 0, .int 0, .int 0, .int ((-1)), .int 0, .int 0, .long 0])), (ps1, .inr (3, [.int 0, .ref em, .int 0]))] sz)) (va_A [(x, .inr (7, [.ref c1, .ref ps1, .ref lg, .int 9, .int 99, .int 0, .int 0, .int 0, .int ((-1)), .int 0, .int 0, .long 0])), (ps1, .inr (3, [.int 0, .ref em, .int 0]))] sz)) (vx_X (fun (u : String × tw_U) => u = ("java/lang/ArithmeticException", (([], []) : tw_U))) (tw_BX D (va_A [(x, .inr (7, [.ref c1, .ref ps1, .ref lg, .int 9, .int 99, .int 0, .int 0, .int 0, .int ((-1)), .int 0, .int 0, .long 0])), (ps1, .inr (3, [.int 0, .ref em, .int 0]))] sz)) (va_A [(x, .inr (7, [.ref c1, .ref ps1, .ref lg, .int 9, .int 99, .int 0, .int 0, .int 0, .int ((-1)), .int 0, .int 0, .long 0])), (ps1, .inr (3, [.int 0, .ref em, .int 0]))] sz)) 1 6 (va_A [(x, .inr (7, [.ref c1, .ref ps1, .ref lg, .int 9, .int 99, .int 0, .int 0, .int 0, .int ((-1)), .int 0, .int 0, .long 0])), (ps1, .inr (3, [.int 0, .ref em, .int 0]))] sz) := by
  refine vx_ofW (cc := cX3_comeShare) (maxL := 2) (ret := (some .float)) (by decide) rfl ?_
  intro p e s m args below meth c s₁ B hml htab hv
  obtain ⟨rfl, hsz, hP, hK, hD0, hF⟩ := hv
  have hx := B.exec
  have hb := B.bytes
  have hr := B.returns
  have hts := atoms_spec (ws := wsX3_comeShare) B.pre
  have hown : s.vm.findClass RX3 = some m.cls := findClass_of_methodNamed B.named
  have hlocks := B.notSynchronized
  have hiRX3 : ∀ w ∈ u_ws RX3 TX3 12, w ∈ wsX3_comeShare := by decide +kernel
  have hx258 : ∀ w ∈ (vx_atS RX3 258 "java/lang/ArithmeticException" ["java/lang/RuntimeException", "java/lang/Exception"]).filter goodWord, w ∈ wsX3_comeShare := by decide +kernel
  subst hsz
  have hD := hD0.self (sz := s.heap.size)
  generalize hAe : va_A [(x, .inr (7, [.ref c1, .ref ps1, .ref lg, .int 9, .int 99, .int 0, .int 0, .int 0, .int ((-1)), .int 0, .int 0, .long 0])), (ps1, .inr (3, [.int 0, .ref em, .int 0]))] s.heap.size = A at hD hF ⊢
  have hA : ∀ q : Nat, s.heap.size ≤ q → A q := fun q h => by rw [← hAe]; exact Or.inr h
  have hS : va_S A s.heap s.heap [] := va_S.rf
  have hP : va_P D vwCl [(x, .inr (7, [.ref c1, .ref ps1, .ref lg, .int 9, .int 99, .int 0, .int 0, .int 0, .int ((-1)), .int 0, .int 0, .long 0])), (ps1, .inr (3, [.int 0, .ref em, .int 0]))] s.heap := hP
  have hl := lv_entry ([.ref x]) (n := 2) (Nat.le_of_ble_eq_true rfl)
  rw [lg_entry_eq]
  generalize (lg_sl ([.ref x]) ++ List.replicate (2 - (lg_sl ([.ref x])).length) Slot.unset).toArray = ls at hl ⊢
  have hl : lv_has ls 2 [(0, .ref x)] := hl
  refine lv_aload_n hx hb dX3_comeShare_0 rfl (lv_at hl 0 rfl) ?_
  refine va_get (D := D) (ci := 7) (v := .ref ps1) (C := RX3) (T := TX3) (N := 12) hx hb hts hiRX3 hown hK hP 0 rfl rfl 1 (by decide) (hts (.fieldLink RX3 16 "Towerliftry" "persons" "Ljava/util/ArrayList;") (by decide +kernel)) (fun _ h9 => h9) rfl dX3_comeShare_1 ?_
  have hPc := hP.sub (ws' := [(ps1, .inr (3, [.int 0, .ref em, .int 0]))]) [1] rfl
  have hDc := hD.sub (ws' := [(ps1, .inr (3, [.int 0, .ref em, .int 0]))]) [1] (by decide) rfl
  have hKc := hK.sub (tys' := []) [] rfl
  have hFc := va_free (wc := [(ps1, .inr (3, [.int 0, .ref em, .int 0]))]) hD hS hA [1] rfl
  refine va_calli (va_runV (As := []) (rest := []) ⟨hx, hb, hml, hown, hts⟩ (c_size0 l hst em kw kb D ps1 em _) (cwV 0 hts gX3_comeShare_Jx4a65c_size_8abf5 rfl rfl rfl (by decide +kernel) ⟨(Nat.le_of_ble_eq_true rfl), (Nat.le_of_ble_eq_true rfl)⟩) (tw_preV hF hS hFc hPc hKc hDc (va_recv hKc hPc (ci := 3) (q0 := 0) rfl rfl)) rfl rfl hl.1 rfl (lv_room (Nat.le_of_ble_eq_true rfl)) dX3_comeShare_4 ⟨(Nat.le_of_ble_eq_true rfl), (Nat.le_of_ble_eq_true rfl)⟩) hS (fun q _ h => hFc q h) hFc (fun r u t H locs ht hvm hw hB hz1 hk1 hS => ?_)
  obtain ⟨rfl, rfl⟩ := hw
  obtain ⟨hP, hD, hK⟩ := tw_join (wr := [(x, .inr (7, [.ref c1, .ref ps1, .ref lg, .int 9, .int 99, .int 0, .int 0, .int 0, .int ((-1)), .int 0, .int 0, .long 0]))]) hP hD hK [1] [0] rfl rfl (by decide) (by decide) hk1 hFc ht hvm hB
  have hP : va_P D vwCl [(x, .inr (7, [.ref c1, .ref ps1, .ref lg, .int 9, .int 99, .int 0, .int 0, .int 0, .int ((-1)), .int 0, .int 0, .long 0])), (ps1, .inr (3, [.int 0, .ref em, .int 0]))] _ := hP
  have hD : va_D A [(x, .inr (7, [.ref c1, .ref ps1, .ref lg, .int 9, .int 99, .int 0, .int 0, .int 0, .int ((-1)), .int 0, .int 0, .long 0])), (ps1, .inr (3, [.int 0, .ref em, .int 0]))] := hD
  have hK : va_K D vwCl [] s := hK
  refine W.widen (k := 0) (n := 0) (Nat.le_refl _) (Nat.le_refl _) ?_
  refine W.eq (g2 := F0 m 7 ls [.int 0]) rfl ?_
  refine lv_istore_n (lv' := [(1, .int 0), (0, .ref x)]) hx hb dX3_comeShare_7 rfl hl (by decide) rfl (fun ls hl => ?_)
  refine lv_iload_n hx hb dX3_comeShare_8 rfl (lv_at hl 0 rfl) ?_
  refine lv_if_ne (tgt := 23) hx hb dX3_comeShare_9 (by decide) (fun c9 => absurd c9 (by decide)) (fun c9 => ?_)
  obtain ⟨sa, hstr⟩ := tw_str hF (q := (256, "there are no persons")) (by decide)
  have hP9 := hP.sub (ws' := []) [] rfl
  have hD9 := hD.sub (ws' := []) [] (by decide) rfl
  have hK9 := hK.sub (tys' := []) [] rfl
  exact vx_throwSW hx hb hst (own := RX3) (cls := "java/lang/ArithmeticException") (text := "there are no persons") (names := ["java/lang/RuntimeException", "java/lang/Exception"]) (ik := 254) (is := 256) (ic := 258) hown (by decide +kernel) (by decide +kernel) (hts (.classLink RX3 254 "java/lang/ArithmeticException") (by decide +kernel)) (hts (.initialized "java/lang/ArithmeticException") (by decide +kernel)) hstr (tw_hat hF (fun w h => hts w (hx258 w h)) (by decide +kernel)) (by decide +kernel) hF.1 hF.2.1 hS (hl.1.trans hml.symm) dX3_comeShare_12 dX3_comeShare_15 dX3_comeShare_16 dX3_comeShare_19 dX3_comeShare_22 (fun x9 h9 => (htab x9 h9).elim) (Nat.le_of_ble_eq_true rfl) (Nat.le_of_ble_eq_true rfl) (Nat.le_of_ble_eq_true rfl) (Nat.le_of_ble_eq_true rfl) hlocks (tw_exc hP9 hK9 hD9 hS _ rfl) hS.2.2 (Nat.le_of_ble_eq_true rfl) (Nat.le_of_ble_eq_true rfl)
set_option maxHeartbeats 4000000 in
set_option maxRecDepth 100000 in
theorem c_X3_meanWait (l : Launch) (hst : l.stackTraces = false) (em kw kb : Nat) (D : va_G) (x : Nat) (c1 : Nat) (ps1 : Nat) (lg : Nat) (sz : Nat) : vx_Met l yX3_meanWait wsX3_meanWait ({ frames := 6, cells := 1, slots := 6, locals := 82 }) (va_Pc [.ref x] (tw_Pre em kw kb D sz [(x, .inr (7, [.ref c1, .ref ps1, .ref lg, .int 9, .int 99, .int 0, .int 0, .int 0, .int ((-1)), .int 0, .int 0, .long 0])), (ps1, .inr (3, [.int 0, .ref em, .int 0]))] [])) (va_Qd (fun (r : UInt64) (u : tw_U) => False) (tw_B D (va_A [(x, .inr (7, [.ref c1, .ref ps1, .ref lg, .int 9, .int 99, .int 0, .int 0, .int 0, .int ((-1)), .int 0, .int 0, .long 0])), (ps1, .inr (3, [.int 0, .ref em, .int 0]))] sz)) (va_A [(x, .inr (7, [.ref c1, .ref ps1, .ref lg, .int 9, .int 99, .int 0, .int 0, .int 0, .int ((-1)), .int 0, .int 0, .long 0])), (ps1, .inr (3, [.int 0, .ref em, .int 0]))] sz)) (vx_X (fun (u : String × tw_U) => u = ("java/lang/ArithmeticException", (([], []) : tw_U))) (tw_BX D (va_A [(x, .inr (7, [.ref c1, .ref ps1, .ref lg, .int 9, .int 99, .int 0, .int 0, .int 0, .int ((-1)), .int 0, .int 0, .long 0])), (ps1, .inr (3, [.int 0, .ref em, .int 0]))] sz)) (va_A [(x, .inr (7, [.ref c1, .ref ps1, .ref lg, .int 9, .int 99, .int 0, .int 0, .int 0, .int ((-1)), .int 0, .int 0, .long 0])), (ps1, .inr (3, [.int 0, .ref em, .int 0]))] sz)) 1 6 (va_A [(x, .inr (7, [.ref c1, .ref ps1, .ref lg, .int 9, .int 99, .int 0, .int 0, .int 0, .int ((-1)), .int 0, .int 0, .long 0])), (ps1, .inr (3, [.int 0, .ref em, .int 0]))] sz) := by
  refine vx_ofW (cc := cX3_meanWait) (maxL := 5) (ret := (some .double)) (by decide) rfl ?_
  intro p e s m args below meth c s₁ B hml htab hv
  obtain ⟨rfl, hsz, hP, hK, hD0, hF⟩ := hv
  have hx := B.exec
  have hb := B.bytes
  have hr := B.returns
  have hts := atoms_spec (ws := wsX3_meanWait) B.pre
  have hown : s.vm.findClass RX3 = some m.cls := findClass_of_methodNamed B.named
  have hlocks := B.notSynchronized
  have hiRX3 : ∀ w ∈ u_ws RX3 TX3 12, w ∈ wsX3_meanWait := by decide +kernel
  have hx258 : ∀ w ∈ (vx_atS RX3 258 "java/lang/ArithmeticException" ["java/lang/RuntimeException", "java/lang/Exception"]).filter goodWord, w ∈ wsX3_meanWait := by decide +kernel
  subst hsz
  have hD := hD0.self (sz := s.heap.size)
  generalize hAe : va_A [(x, .inr (7, [.ref c1, .ref ps1, .ref lg, .int 9, .int 99, .int 0, .int 0, .int 0, .int ((-1)), .int 0, .int 0, .long 0])), (ps1, .inr (3, [.int 0, .ref em, .int 0]))] s.heap.size = A at hD hF ⊢
  have hA : ∀ q : Nat, s.heap.size ≤ q → A q := fun q h => by rw [← hAe]; exact Or.inr h
  have hS : va_S A s.heap s.heap [] := va_S.rf
  have hP : va_P D vwCl [(x, .inr (7, [.ref c1, .ref ps1, .ref lg, .int 9, .int 99, .int 0, .int 0, .int 0, .int ((-1)), .int 0, .int 0, .long 0])), (ps1, .inr (3, [.int 0, .ref em, .int 0]))] s.heap := hP
  have hl := lv_entry ([.ref x]) (n := 5) (Nat.le_of_ble_eq_true rfl)
  rw [lg_entry_eq]
  generalize (lg_sl ([.ref x]) ++ List.replicate (5 - (lg_sl ([.ref x])).length) Slot.unset).toArray = ls at hl ⊢
  have hl : lv_has ls 5 [(0, .ref x)] := hl
  refine lv_aload_n hx hb dX3_meanWait_0 rfl (lv_at hl 0 rfl) ?_
  refine va_get (D := D) (ci := 7) (v := .ref ps1) (C := RX3) (T := TX3) (N := 12) hx hb hts hiRX3 hown hK hP 0 rfl rfl 1 (by decide) (hts (.fieldLink RX3 16 "Towerliftry" "persons" "Ljava/util/ArrayList;") (by decide +kernel)) (fun _ h9 => h9) rfl dX3_meanWait_1 ?_
  have hPc := hP.sub (ws' := [(ps1, .inr (3, [.int 0, .ref em, .int 0]))]) [1] rfl
  have hDc := hD.sub (ws' := [(ps1, .inr (3, [.int 0, .ref em, .int 0]))]) [1] (by decide) rfl
  have hKc := hK.sub (tys' := []) [] rfl
  have hFc := va_free (wc := [(ps1, .inr (3, [.int 0, .ref em, .int 0]))]) hD hS hA [1] rfl
  refine va_calli (va_runV (As := []) (rest := []) ⟨hx, hb, hml, hown, hts⟩ (c_size0 l hst em kw kb D ps1 em _) (cwV 0 hts gX3_meanWait_Jx4a65c_size_8abf5 rfl rfl rfl (by decide +kernel) ⟨(Nat.le_of_ble_eq_true rfl), (Nat.le_of_ble_eq_true rfl)⟩) (tw_preV hF hS hFc hPc hKc hDc (va_recv hKc hPc (ci := 3) (q0 := 0) rfl rfl)) rfl rfl hl.1 rfl (lv_room (Nat.le_of_ble_eq_true rfl)) dX3_meanWait_4 ⟨(Nat.le_of_ble_eq_true rfl), (Nat.le_of_ble_eq_true rfl)⟩) hS (fun q _ h => hFc q h) hFc (fun r u t H locs ht hvm hw hB hz1 hk1 hS => ?_)
  obtain ⟨rfl, rfl⟩ := hw
  obtain ⟨hP, hD, hK⟩ := tw_join (wr := [(x, .inr (7, [.ref c1, .ref ps1, .ref lg, .int 9, .int 99, .int 0, .int 0, .int 0, .int ((-1)), .int 0, .int 0, .long 0]))]) hP hD hK [1] [0] rfl rfl (by decide) (by decide) hk1 hFc ht hvm hB
  have hP : va_P D vwCl [(x, .inr (7, [.ref c1, .ref ps1, .ref lg, .int 9, .int 99, .int 0, .int 0, .int 0, .int ((-1)), .int 0, .int 0, .long 0])), (ps1, .inr (3, [.int 0, .ref em, .int 0]))] _ := hP
  have hD : va_D A [(x, .inr (7, [.ref c1, .ref ps1, .ref lg, .int 9, .int 99, .int 0, .int 0, .int 0, .int ((-1)), .int 0, .int 0, .long 0])), (ps1, .inr (3, [.int 0, .ref em, .int 0]))] := hD
  have hK : va_K D vwCl [] s := hK
  refine W.widen (k := 0) (n := 0) (Nat.le_refl _) (Nat.le_refl _) ?_
  refine W.eq (g2 := F0 m 7 ls [.int 0]) rfl ?_
  refine lv_istore_n (lv' := [(1, .int 0), (0, .ref x)]) hx hb dX3_meanWait_7 rfl hl (by decide) rfl (fun ls hl => ?_)
  refine lv_iload_n hx hb dX3_meanWait_8 rfl (lv_at hl 0 rfl) ?_
  refine lv_if_ne (tgt := 23) hx hb dX3_meanWait_9 (by decide) (fun c9 => absurd c9 (by decide)) (fun c9 => ?_)
  obtain ⟨sa, hstr⟩ := tw_str hF (q := (256, "there are no persons")) (by decide)
  have hP9 := hP.sub (ws' := []) [] rfl
  have hD9 := hD.sub (ws' := []) [] (by decide) rfl
  have hK9 := hK.sub (tys' := []) [] rfl
  exact vx_throwSW hx hb hst (own := RX3) (cls := "java/lang/ArithmeticException") (text := "there are no persons") (names := ["java/lang/RuntimeException", "java/lang/Exception"]) (ik := 254) (is := 256) (ic := 258) hown (by decide +kernel) (by decide +kernel) (hts (.classLink RX3 254 "java/lang/ArithmeticException") (by decide +kernel)) (hts (.initialized "java/lang/ArithmeticException") (by decide +kernel)) hstr (tw_hat hF (fun w h => hts w (hx258 w h)) (by decide +kernel)) (by decide +kernel) hF.1 hF.2.1 hS (hl.1.trans hml.symm) dX3_meanWait_12 dX3_meanWait_15 dX3_meanWait_16 dX3_meanWait_19 dX3_meanWait_22 (fun x9 h9 => (htab x9 h9).elim) (Nat.le_of_ble_eq_true rfl) (Nat.le_of_ble_eq_true rfl) (Nat.le_of_ble_eq_true rfl) (Nat.le_of_ble_eq_true rfl) hlocks (tw_exc hP9 hK9 hD9 hS _ rfl) hS.2.2 (Nat.le_of_ble_eq_true rfl) (Nat.le_of_ble_eq_true rfl)
set_option maxHeartbeats 4000000 in
set_option maxRecDepth 100000 in
theorem c_X3_isTrue (l : Launch) (hst : l.stackTraces = false) (em kw kb : Nat) (D : va_G) (x : Nat) (c1 : Nat) (ps1 : Nat) (lg : Nat) (sz : Nat) : Met l yX3_isTrue wsX3_isTrue ({ frames := 1, cells := 0, slots := 0, locals := 20 }) (va_Pc [.ref x] (tw_Pre em kw kb D sz [(x, .inr (7, [.ref c1, .ref ps1, .ref lg, .int 9, .int 99, .int 0, .int 0, .int 0, .int ((-1)), .int 0, .int 0, .long 0])), (c1, .inr (3, [.int 0, .ref em, .int 0]))] [])) (va_Qi (fun (r : Int32) (u : tw_U) => r = 1 ∧ u = ([], [])) (tw_B D (va_A [(x, .inr (7, [.ref c1, .ref ps1, .ref lg, .int 9, .int 99, .int 0, .int 0, .int 0, .int ((-1)), .int 0, .int 0, .long 0])), (c1, .inr (3, [.int 0, .ref em, .int 0]))] sz)) (va_A [(x, .inr (7, [.ref c1, .ref ps1, .ref lg, .int 9, .int 99, .int 0, .int 0, .int 0, .int ((-1)), .int 0, .int 0, .long 0])), (c1, .inr (3, [.int 0, .ref em, .int 0]))] sz)) 0 0 (va_A [(x, .inr (7, [.ref c1, .ref ps1, .ref lg, .int 9, .int 99, .int 0, .int 0, .int 0, .int ((-1)), .int 0, .int 0, .long 0])), (c1, .inr (3, [.int 0, .ref em, .int 0]))] sz) := by
  refine Met.ofW (cc := cX3_isTrue) (maxL := 3) (ret := (some .boolean)) (by decide) rfl ?_
  intro p e s m args below meth c s₁ B hml hv
  obtain ⟨rfl, hsz, hP, hK, hD0, hF⟩ := hv
  have hx := B.exec
  have hb := B.bytes
  have hr := B.returns
  have hts := atoms_spec (ws := wsX3_isTrue) B.pre
  have hown : s.vm.findClass RX3 = some m.cls := findClass_of_methodNamed B.named
  have hlocks := B.notSynchronized
  have hiRX3 : ∀ w ∈ u_ws RX3 TX3 12, w ∈ wsX3_isTrue := by decide +kernel
  subst hsz
  have hD := hD0.self (sz := s.heap.size)
  generalize hAe : va_A [(x, .inr (7, [.ref c1, .ref ps1, .ref lg, .int 9, .int 99, .int 0, .int 0, .int 0, .int ((-1)), .int 0, .int 0, .long 0])), (c1, .inr (3, [.int 0, .ref em, .int 0]))] s.heap.size = A at hD hF ⊢
  have hA : ∀ q : Nat, s.heap.size ≤ q → A q := fun q h => by rw [← hAe]; exact Or.inr h
  have hS : va_S A s.heap s.heap [] := va_S.rf
  have hP : va_P D vwCl [(x, .inr (7, [.ref c1, .ref ps1, .ref lg, .int 9, .int 99, .int 0, .int 0, .int 0, .int ((-1)), .int 0, .int 0, .long 0])), (c1, .inr (3, [.int 0, .ref em, .int 0]))] s.heap := hP
  have hl := lv_entry ([.ref x]) (n := 3) (Nat.le_of_ble_eq_true rfl)
  rw [lg_entry_eq]
  generalize (lg_sl ([.ref x]) ++ List.replicate (3 - (lg_sl ([.ref x])).length) Slot.unset).toArray = ls at hl ⊢
  have hl : lv_has ls 3 [(0, .ref x)] := hl
  refine lv_iconst (v := 0) hx hb dX3_isTrue_0 (by decide) ?_
  refine lv_istore_n (lv' := [(1, .int 0), (0, .ref x)]) hx hb dX3_isTrue_1 rfl hl (by decide) rfl (fun ls hl => ?_)
  refine lv_iload_n hx hb dX3_isTrue_2 rfl (lv_at hl 0 rfl) ?_
  refine lv_aload_n hx hb dX3_isTrue_3 rfl (lv_at hl 1 rfl) ?_
  refine va_get (D := D) (ci := 7) (v := .ref c1) (C := RX3) (T := TX3) (N := 12) hx hb hts hiRX3 hown hK hP 0 rfl rfl 0 (by decide) (hts (.fieldLink RX3 10 "Towerliftry" "cars" "Ljava/util/ArrayList;") (by decide +kernel)) (fun _ h9 => h9) rfl dX3_isTrue_4 ?_
  have hPc := hP.sub (ws' := [(c1, .inr (3, [.int 0, .ref em, .int 0]))]) [1] rfl
  have hDc := hD.sub (ws' := [(c1, .inr (3, [.int 0, .ref em, .int 0]))]) [1] (by decide) rfl
  have hKc := hK.sub (tys' := []) [] rfl
  have hFc := va_free (wc := [(c1, .inr (3, [.int 0, .ref em, .int 0]))]) hD hS hA [1] rfl
  refine va_calli (va_runV (As := []) (rest := [.int 0]) ⟨hx, hb, hml, hown, hts⟩ (c_size0 l hst em kw kb D c1 em _) (cwV 0 hts gX3_isTrue_Jx4a65c_size_8abf5 rfl rfl rfl (by decide +kernel) ⟨(Nat.le_of_ble_eq_true rfl), (Nat.le_of_ble_eq_true rfl)⟩) (tw_preV hF hS hFc hPc hKc hDc (va_recv hKc hPc (ci := 3) (q0 := 0) rfl rfl)) rfl rfl hl.1 rfl (lv_room (Nat.le_of_ble_eq_true rfl)) dX3_isTrue_7 ⟨(Nat.le_of_ble_eq_true rfl), (Nat.le_of_ble_eq_true rfl)⟩) hS (fun q _ h => hFc q h) hFc (fun r u t H locs ht hvm hw hB hz1 hk1 hS => ?_)
  obtain ⟨rfl, rfl⟩ := hw
  obtain ⟨hP, hD, hK⟩ := tw_join (wr := [(x, .inr (7, [.ref c1, .ref ps1, .ref lg, .int 9, .int 99, .int 0, .int 0, .int 0, .int ((-1)), .int 0, .int 0, .long 0]))]) hP hD hK [1] [0] rfl rfl (by decide) (by decide) hk1 hFc ht hvm hB
  have hP : va_P D vwCl [(x, .inr (7, [.ref c1, .ref ps1, .ref lg, .int 9, .int 99, .int 0, .int 0, .int 0, .int ((-1)), .int 0, .int 0, .long 0])), (c1, .inr (3, [.int 0, .ref em, .int 0]))] _ := hP
  have hD : va_D A [(x, .inr (7, [.ref c1, .ref ps1, .ref lg, .int 9, .int 99, .int 0, .int 0, .int 0, .int ((-1)), .int 0, .int 0, .long 0])), (c1, .inr (3, [.int 0, .ref em, .int 0]))] := hD
  have hK : va_K D vwCl [] s := hK
  refine W.widen (k := 0) (n := 0) (Nat.le_refl _) (Nat.le_refl _) ?_
  refine W.eq (g2 := F0 m 10 ls [.int 0, .int 0]) rfl ?_
  refine lv_icmp_ge (tgt := 63) hx hb dX3_isTrue_10 (by decide) (fun c9 => ?_) (fun c9 => absurd c9 (by decide))
  refine lv_iconst (v := 1) hx hb dX3_isTrue_63 (by decide) ?_
  refine W.widen (k := 0) (n := 0) (Nat.le_of_ble_eq_true rfl) (Nat.le_of_ble_eq_true rfl) ?_
  have hP9 := hP.sub (ws' := []) [] rfl
  have hD9 := hD.sub (ws' := []) [] (by decide) rfl
  have hK9 := hK.sub (tys' := []) [] rfl
  exact W.zret (v := 1) (ty := .boolean) hx hb hr (by decide) (fun t ht hW => ⟨⟨1, ([], []), rfl, ⟨rfl, rfl⟩, by rw [ht]; exact hP9, va_K.moved hW.alike hK9, hD9⟩, hS.F ht⟩) hS.2.2 dX3_isTrue_64
set_option maxHeartbeats 4000000 in
set_option maxRecDepth 100000 in
theorem c_X3_waitOneTick (l : Launch) (hst : l.stackTraces = false) (em kw kb : Nat) (D : va_G) (x : Nat) (c1 : Nat) (ps1 : Nat) (lg : Nat) (t5 : Int32) (sz : Nat) : Met l yX3_waitOneTick wsX3_waitOneTick ({ frames := 0, cells := 0, slots := 0, locals := 0 }) (va_Pc [.ref x] (tw_Pre em kw kb D sz [(x, .inr (7, [.ref c1, .ref ps1, .ref lg, .int 9, .int 99, .int t5, .int 0, .int 0, .int ((-1)), .int 0, .int 0, .long 0]))] [])) (va_Qv (fun (u : tw_U) => u = ([(x, .inr (7, [.ref c1, .ref ps1, .ref lg, .int 9, .int 99, .int t5, .int 0, .int 0, .int ((-1)), .int 0, .int 0, .long 0]))], [])) (tw_B D (va_A [(x, .inr (7, [.ref c1, .ref ps1, .ref lg, .int 9, .int 99, .int t5, .int 0, .int 0, .int ((-1)), .int 0, .int 0, .long 0]))] sz)) (va_A [(x, .inr (7, [.ref c1, .ref ps1, .ref lg, .int 9, .int 99, .int t5, .int 0, .int 0, .int ((-1)), .int 0, .int 0, .long 0]))] sz)) 0 0 (va_A [(x, .inr (7, [.ref c1, .ref ps1, .ref lg, .int 9, .int 99, .int t5, .int 0, .int 0, .int ((-1)), .int 0, .int 0, .long 0]))] sz) := by
  refine Met.ofW (cc := cX3_waitOneTick) (maxL := 4) (ret := none) (by decide) rfl ?_
  intro p e s m args below meth c s₁ B hml hv
  obtain ⟨rfl, hsz, hP, hK, hD0, hF⟩ := hv
  have hx := B.exec
  have hb := B.bytes
  have hr := B.returns
  have hts := atoms_spec (ws := wsX3_waitOneTick) B.pre
  have hown : s.vm.findClass RX3 = some m.cls := findClass_of_methodNamed B.named
  have hlocks := B.notSynchronized
  have hiRX3 : ∀ w ∈ u_ws RX3 TX3 12, w ∈ wsX3_waitOneTick := by decide +kernel
  subst hsz
  have hD := hD0.self (sz := s.heap.size)
  generalize hAe : va_A [(x, .inr (7, [.ref c1, .ref ps1, .ref lg, .int 9, .int 99, .int t5, .int 0, .int 0, .int ((-1)), .int 0, .int 0, .long 0]))] s.heap.size = A at hD hF ⊢
  have hA : ∀ q : Nat, s.heap.size ≤ q → A q := fun q h => by rw [← hAe]; exact Or.inr h
  have hS : va_S A s.heap s.heap [] := va_S.rf
  have hP : va_P D vwCl [(x, .inr (7, [.ref c1, .ref ps1, .ref lg, .int 9, .int 99, .int t5, .int 0, .int 0, .int ((-1)), .int 0, .int 0, .long 0]))] s.heap := hP
  have hl := lv_entry ([.ref x]) (n := 4) (Nat.le_of_ble_eq_true rfl)
  rw [lg_entry_eq]
  generalize (lg_sl ([.ref x]) ++ List.replicate (4 - (lg_sl ([.ref x])).length) Slot.unset).toArray = ls at hl ⊢
  have hl : lv_has ls 4 [(0, .ref x)] := hl
  refine lv_aload_n hx hb dX3_waitOneTick_0 rfl (lv_at hl 0 rfl) ?_
  refine va_get (D := D) (ci := 7) (v := .int 0) (C := RX3) (T := TX3) (N := 12) hx hb hts hiRX3 hown hK hP 0 rfl rfl 6 (by decide) (hts (.fieldLink RX3 285 "Towerliftry" "upWaiting" "I") (by decide +kernel)) (fun _ h9 => h9) rfl dX3_waitOneTick_1 ?_
  refine lv_aload_n hx hb dX3_waitOneTick_4 rfl (lv_at hl 0 rfl) ?_
  refine va_get (D := D) (ci := 7) (v := .int 0) (C := RX3) (T := TX3) (N := 12) hx hb hts hiRX3 hown hK hP 0 rfl rfl 7 (by decide) (hts (.fieldLink RX3 288 "Towerliftry" "downWaiting" "I") (by decide +kernel)) (fun _ h9 => h9) rfl dX3_waitOneTick_5 ?_
  refine lv_ior hx hb dX3_waitOneTick_8 ?_
  refine lv_topi (fun z_1 ez_1 => ?_)
  have ez_1 : z_1 = (0 : Int32) := ez_1.trans (by decide)
  subst ez_1
  refine lv_if_ne (tgt := 13) hx hb dX3_waitOneTick_9 (by decide) (fun c9 => absurd c9 (by decide)) (fun c9 => ?_)
  refine W.widen (k := 0) (n := 0) (Nat.le_of_ble_eq_true rfl) (Nat.le_of_ble_eq_true rfl) ?_
  have hP9 := hP.sub (ws' := [(x, .inr (7, [.ref c1, .ref ps1, .ref lg, .int 9, .int 99, .int t5, .int 0, .int 0, .int ((-1)), .int 0, .int 0, .long 0]))]) [0] rfl
  have hD9 := hD.sub (ws' := [(x, .inr (7, [.ref c1, .ref ps1, .ref lg, .int 9, .int 99, .int t5, .int 0, .int 0, .int ((-1)), .int 0, .int 0, .long 0]))]) [0] (by decide) rfl
  have hK9 := hK.sub (tys' := []) [] rfl
  exact W.vret hx hb hr (fun t ht hW => ⟨⟨([(x, .inr (7, [.ref c1, .ref ps1, .ref lg, .int 9, .int 99, .int t5, .int 0, .int 0, .int ((-1)), .int 0, .int 0, .long 0]))], []), rfl, rfl, by rw [ht]; exact hP9, va_K.moved hW.alike hK9, hD9⟩, hS.F ht⟩) hS.2.2 dX3_waitOneTick_12
set_option maxHeartbeats 4000000 in
set_option maxRecDepth 100000 in
theorem c_X3_promiseCalls (l : Launch) (hst : l.stackTraces = false) (em kw kb : Nat) (D : va_G) (x : Nat) (c1 : Nat) (ps1 : Nat) (lg : Nat) (t5 : Int32) (sz : Nat) : Met l yX3_promiseCalls wsX3_promiseCalls ({ frames := 1, cells := 0, slots := 0, locals := 20 }) (va_Pc [.ref x] (tw_Pre em kw kb D sz [(x, .inr (7, [.ref c1, .ref ps1, .ref lg, .int 9, .int 99, .int t5, .int 0, .int 0, .int ((-1)), .int 0, .int 0, .long 0])), (c1, .inr (3, [.int 0, .ref em, .int 0]))] [])) (va_Qv (fun (u : tw_U) => u = ([(x, .inr (7, [.ref c1, .ref ps1, .ref lg, .int 9, .int 99, .int t5, .int 0, .int 0, .int ((-1)), .int 0, .int 0, .long 0])), (c1, .inr (3, [.int 0, .ref em, .int 0]))], [])) (tw_B D (va_A [(x, .inr (7, [.ref c1, .ref ps1, .ref lg, .int 9, .int 99, .int t5, .int 0, .int 0, .int ((-1)), .int 0, .int 0, .long 0])), (c1, .inr (3, [.int 0, .ref em, .int 0]))] sz)) (va_A [(x, .inr (7, [.ref c1, .ref ps1, .ref lg, .int 9, .int 99, .int t5, .int 0, .int 0, .int ((-1)), .int 0, .int 0, .long 0])), (c1, .inr (3, [.int 0, .ref em, .int 0]))] sz)) 0 0 (va_A [(x, .inr (7, [.ref c1, .ref ps1, .ref lg, .int 9, .int 99, .int t5, .int 0, .int 0, .int ((-1)), .int 0, .int 0, .long 0])), (c1, .inr (3, [.int 0, .ref em, .int 0]))] sz) := by
  refine Met.ofW (cc := cX3_promiseCalls) (maxL := 4) (ret := none) (by decide) rfl ?_
  intro p e s m args below meth c s₁ B hml hv
  obtain ⟨rfl, hsz, hP, hK, hD0, hF⟩ := hv
  have hx := B.exec
  have hb := B.bytes
  have hr := B.returns
  have hts := atoms_spec (ws := wsX3_promiseCalls) B.pre
  have hown : s.vm.findClass RX3 = some m.cls := findClass_of_methodNamed B.named
  have hlocks := B.notSynchronized
  have hiRX3 : ∀ w ∈ u_ws RX3 TX3 12, w ∈ wsX3_promiseCalls := by decide +kernel
  subst hsz
  have hD := hD0.self (sz := s.heap.size)
  generalize hAe : va_A [(x, .inr (7, [.ref c1, .ref ps1, .ref lg, .int 9, .int 99, .int t5, .int 0, .int 0, .int ((-1)), .int 0, .int 0, .long 0])), (c1, .inr (3, [.int 0, .ref em, .int 0]))] s.heap.size = A at hD hF ⊢
  have hA : ∀ q : Nat, s.heap.size ≤ q → A q := fun q h => by rw [← hAe]; exact Or.inr h
  have hS : va_S A s.heap s.heap [] := va_S.rf
  have hP : va_P D vwCl [(x, .inr (7, [.ref c1, .ref ps1, .ref lg, .int 9, .int 99, .int t5, .int 0, .int 0, .int ((-1)), .int 0, .int 0, .long 0])), (c1, .inr (3, [.int 0, .ref em, .int 0]))] s.heap := hP
  have hl := lv_entry ([.ref x]) (n := 4) (Nat.le_of_ble_eq_true rfl)
  rw [lg_entry_eq]
  generalize (lg_sl ([.ref x]) ++ List.replicate (4 - (lg_sl ([.ref x])).length) Slot.unset).toArray = ls at hl ⊢
  have hl : lv_has ls 4 [(0, .ref x)] := hl
  refine lv_aload_n hx hb dX3_promiseCalls_0 rfl (lv_at hl 0 rfl) ?_
  refine va_get (D := D) (ci := 7) (v := .int 0) (C := RX3) (T := TX3) (N := 12) hx hb hts hiRX3 hown hK hP 0 rfl rfl 6 (by decide) (hts (.fieldLink RX3 285 "Towerliftry" "upWaiting" "I") (by decide +kernel)) (fun _ h9 => h9) rfl dX3_promiseCalls_1 ?_
  refine lv_istore_n (lv' := [(1, .int 0), (0, .ref x)]) hx hb dX3_promiseCalls_4 rfl hl (by decide) rfl (fun ls hl => ?_)
  refine lv_aload_n hx hb dX3_promiseCalls_5 rfl (lv_at hl 1 rfl) ?_
  refine va_get (D := D) (ci := 7) (v := .int 0) (C := RX3) (T := TX3) (N := 12) hx hb hts hiRX3 hown hK hP 0 rfl rfl 7 (by decide) (hts (.fieldLink RX3 288 "Towerliftry" "downWaiting" "I") (by decide +kernel)) (fun _ h9 => h9) rfl dX3_promiseCalls_6 ?_
  refine lv_istore_n (lv' := [(2, .int 0), (1, .int 0), (0, .ref x)]) hx hb dX3_promiseCalls_9 rfl hl (by decide) rfl (fun ls hl => ?_)
  refine lv_iconst (v := 0) hx hb dX3_promiseCalls_10 (by decide) ?_
  refine lv_istore_n (lv' := [(3, .int 0), (2, .int 0), (1, .int 0), (0, .ref x)]) hx hb dX3_promiseCalls_11 rfl hl (by decide) rfl (fun ls hl => ?_)
  refine lv_iload_n hx hb dX3_promiseCalls_12 rfl (lv_at hl 0 rfl) ?_
  refine lv_aload_n hx hb dX3_promiseCalls_13 rfl (lv_at hl 3 rfl) ?_
  refine va_get (D := D) (ci := 7) (v := .ref c1) (C := RX3) (T := TX3) (N := 12) hx hb hts hiRX3 hown hK hP 0 rfl rfl 0 (by decide) (hts (.fieldLink RX3 10 "Towerliftry" "cars" "Ljava/util/ArrayList;") (by decide +kernel)) (fun _ h9 => h9) rfl dX3_promiseCalls_14 ?_
  have hPc := hP.sub (ws' := [(c1, .inr (3, [.int 0, .ref em, .int 0]))]) [1] rfl
  have hDc := hD.sub (ws' := [(c1, .inr (3, [.int 0, .ref em, .int 0]))]) [1] (by decide) rfl
  have hKc := hK.sub (tys' := []) [] rfl
  have hFc := va_free (wc := [(c1, .inr (3, [.int 0, .ref em, .int 0]))]) hD hS hA [1] rfl
  refine va_calli (va_runV (As := []) (rest := [.int 0]) ⟨hx, hb, hml, hown, hts⟩ (c_size0 l hst em kw kb D c1 em _) (cwV 0 hts gX3_promiseCalls_Jx4a65c_size_8abf5 rfl rfl rfl (by decide +kernel) ⟨(Nat.le_of_ble_eq_true rfl), (Nat.le_of_ble_eq_true rfl)⟩) (tw_preV hF hS hFc hPc hKc hDc (va_recv hKc hPc (ci := 3) (q0 := 0) rfl rfl)) rfl rfl hl.1 rfl (lv_room (Nat.le_of_ble_eq_true rfl)) dX3_promiseCalls_17 ⟨(Nat.le_of_ble_eq_true rfl), (Nat.le_of_ble_eq_true rfl)⟩) hS (fun q _ h => hFc q h) hFc (fun r u t H locs ht hvm hw hB hz1 hk1 hS => ?_)
  obtain ⟨rfl, rfl⟩ := hw
  obtain ⟨hP, hD, hK⟩ := tw_join (wr := [(x, .inr (7, [.ref c1, .ref ps1, .ref lg, .int 9, .int 99, .int t5, .int 0, .int 0, .int ((-1)), .int 0, .int 0, .long 0]))]) hP hD hK [1] [0] rfl rfl (by decide) (by decide) hk1 hFc ht hvm hB
  have hP : va_P D vwCl [(x, .inr (7, [.ref c1, .ref ps1, .ref lg, .int 9, .int 99, .int t5, .int 0, .int 0, .int ((-1)), .int 0, .int 0, .long 0])), (c1, .inr (3, [.int 0, .ref em, .int 0]))] _ := hP
  have hD : va_D A [(x, .inr (7, [.ref c1, .ref ps1, .ref lg, .int 9, .int 99, .int t5, .int 0, .int 0, .int ((-1)), .int 0, .int 0, .long 0])), (c1, .inr (3, [.int 0, .ref em, .int 0]))] := hD
  have hK : va_K D vwCl [] s := hK
  refine W.widen (k := 0) (n := 0) (Nat.le_refl _) (Nat.le_refl _) ?_
  refine W.eq (g2 := F0 m 20 ls [.int 0, .int 0]) rfl ?_
  refine lv_icmp_ge (tgt := 67) hx hb dX3_promiseCalls_20 (by decide) (fun c9 => ?_) (fun c9 => absurd c9 (by decide))
  refine lv_iload_n hx hb dX3_promiseCalls_67 rfl (lv_at hl 2 rfl) ?_
  refine lv_iload_n hx hb dX3_promiseCalls_68 rfl (lv_at hl 1 rfl) ?_
  refine lv_ior hx hb dX3_promiseCalls_69 ?_
  refine lv_topi (fun z_1 ez_1 => ?_)
  have ez_1 : z_1 = (0 : Int32) := ez_1.trans (by decide)
  subst ez_1
  refine lv_if_ne (tgt := 74) hx hb dX3_promiseCalls_70 (by decide) (fun c9 => absurd c9 (by decide)) (fun c9 => ?_)
  refine W.widen (k := 0) (n := 0) (Nat.le_of_ble_eq_true rfl) (Nat.le_of_ble_eq_true rfl) ?_
  have hP9 := hP.sub (ws' := [(x, .inr (7, [.ref c1, .ref ps1, .ref lg, .int 9, .int 99, .int t5, .int 0, .int 0, .int ((-1)), .int 0, .int 0, .long 0])), (c1, .inr (3, [.int 0, .ref em, .int 0]))]) [0, 1] rfl
  have hD9 := hD.sub (ws' := [(x, .inr (7, [.ref c1, .ref ps1, .ref lg, .int 9, .int 99, .int t5, .int 0, .int 0, .int ((-1)), .int 0, .int 0, .long 0])), (c1, .inr (3, [.int 0, .ref em, .int 0]))]) [0, 1] (by decide) rfl
  have hK9 := hK.sub (tys' := []) [] rfl
  exact W.vret hx hb hr (fun t ht hW => ⟨⟨([(x, .inr (7, [.ref c1, .ref ps1, .ref lg, .int 9, .int 99, .int t5, .int 0, .int 0, .int ((-1)), .int 0, .int 0, .long 0])), (c1, .inr (3, [.int 0, .ref em, .int 0]))], []), rfl, rfl, by rw [ht]; exact hP9, va_K.moved hW.alike hK9, hD9⟩, hS.F ht⟩) hS.2.2 dX3_promiseCalls_73
set_option maxHeartbeats 4000000 in
set_option maxRecDepth 100000 in
theorem c_X3_letCarsAct (l : Launch) (hst : l.stackTraces = false) (em kw kb : Nat) (D : va_G) (x : Nat) (c1 : Nat) (ps1 : Nat) (lg : Nat) (t5 : Int32) (sz : Nat) : Met l yX3_letCarsAct wsX3_letCarsAct ({ frames := 1, cells := 0, slots := 0, locals := 20 }) (va_Pc [.ref x] (tw_Pre em kw kb D sz [(x, .inr (7, [.ref c1, .ref ps1, .ref lg, .int 9, .int 99, .int t5, .int 0, .int 0, .int ((-1)), .int 0, .int 0, .long 0])), (c1, .inr (3, [.int 0, .ref em, .int 0]))] [])) (va_Qv (fun (u : tw_U) => u = ([(x, .inr (7, [.ref c1, .ref ps1, .ref lg, .int 9, .int 99, .int t5, .int 0, .int 0, .int ((-1)), .int 0, .int 0, .long 0])), (c1, .inr (3, [.int 0, .ref em, .int 0]))], [])) (tw_B D (va_A [(x, .inr (7, [.ref c1, .ref ps1, .ref lg, .int 9, .int 99, .int t5, .int 0, .int 0, .int ((-1)), .int 0, .int 0, .long 0])), (c1, .inr (3, [.int 0, .ref em, .int 0]))] sz)) (va_A [(x, .inr (7, [.ref c1, .ref ps1, .ref lg, .int 9, .int 99, .int t5, .int 0, .int 0, .int ((-1)), .int 0, .int 0, .long 0])), (c1, .inr (3, [.int 0, .ref em, .int 0]))] sz)) 0 0 (va_A [(x, .inr (7, [.ref c1, .ref ps1, .ref lg, .int 9, .int 99, .int t5, .int 0, .int 0, .int ((-1)), .int 0, .int 0, .long 0])), (c1, .inr (3, [.int 0, .ref em, .int 0]))] sz) := by
  refine Met.ofW (cc := cX3_letCarsAct) (maxL := 3) (ret := none) (by decide) rfl ?_
  intro p e s m args below meth c s₁ B hml hv
  obtain ⟨rfl, hsz, hP, hK, hD0, hF⟩ := hv
  have hx := B.exec
  have hb := B.bytes
  have hr := B.returns
  have hts := atoms_spec (ws := wsX3_letCarsAct) B.pre
  have hown : s.vm.findClass RX3 = some m.cls := findClass_of_methodNamed B.named
  have hlocks := B.notSynchronized
  have hiRX3 : ∀ w ∈ u_ws RX3 TX3 12, w ∈ wsX3_letCarsAct := by decide +kernel
  subst hsz
  have hD := hD0.self (sz := s.heap.size)
  generalize hAe : va_A [(x, .inr (7, [.ref c1, .ref ps1, .ref lg, .int 9, .int 99, .int t5, .int 0, .int 0, .int ((-1)), .int 0, .int 0, .long 0])), (c1, .inr (3, [.int 0, .ref em, .int 0]))] s.heap.size = A at hD hF ⊢
  have hA : ∀ q : Nat, s.heap.size ≤ q → A q := fun q h => by rw [← hAe]; exact Or.inr h
  have hS : va_S A s.heap s.heap [] := va_S.rf
  have hP : va_P D vwCl [(x, .inr (7, [.ref c1, .ref ps1, .ref lg, .int 9, .int 99, .int t5, .int 0, .int 0, .int ((-1)), .int 0, .int 0, .long 0])), (c1, .inr (3, [.int 0, .ref em, .int 0]))] s.heap := hP
  have hl := lv_entry ([.ref x]) (n := 3) (Nat.le_of_ble_eq_true rfl)
  rw [lg_entry_eq]
  generalize (lg_sl ([.ref x]) ++ List.replicate (3 - (lg_sl ([.ref x])).length) Slot.unset).toArray = ls at hl ⊢
  have hl : lv_has ls 3 [(0, .ref x)] := hl
  refine lv_iconst (v := 0) hx hb dX3_letCarsAct_0 (by decide) ?_
  refine lv_istore_n (lv' := [(1, .int 0), (0, .ref x)]) hx hb dX3_letCarsAct_1 rfl hl (by decide) rfl (fun ls hl => ?_)
  refine lv_iload_n hx hb dX3_letCarsAct_2 rfl (lv_at hl 0 rfl) ?_
  refine lv_aload_n hx hb dX3_letCarsAct_3 rfl (lv_at hl 1 rfl) ?_
  refine va_get (D := D) (ci := 7) (v := .ref c1) (C := RX3) (T := TX3) (N := 12) hx hb hts hiRX3 hown hK hP 0 rfl rfl 0 (by decide) (hts (.fieldLink RX3 10 "Towerliftry" "cars" "Ljava/util/ArrayList;") (by decide +kernel)) (fun _ h9 => h9) rfl dX3_letCarsAct_4 ?_
  have hPc := hP.sub (ws' := [(c1, .inr (3, [.int 0, .ref em, .int 0]))]) [1] rfl
  have hDc := hD.sub (ws' := [(c1, .inr (3, [.int 0, .ref em, .int 0]))]) [1] (by decide) rfl
  have hKc := hK.sub (tys' := []) [] rfl
  have hFc := va_free (wc := [(c1, .inr (3, [.int 0, .ref em, .int 0]))]) hD hS hA [1] rfl
  refine va_calli (va_runV (As := []) (rest := [.int 0]) ⟨hx, hb, hml, hown, hts⟩ (c_size0 l hst em kw kb D c1 em _) (cwV 0 hts gX3_letCarsAct_Jx4a65c_size_8abf5 rfl rfl rfl (by decide +kernel) ⟨(Nat.le_of_ble_eq_true rfl), (Nat.le_of_ble_eq_true rfl)⟩) (tw_preV hF hS hFc hPc hKc hDc (va_recv hKc hPc (ci := 3) (q0 := 0) rfl rfl)) rfl rfl hl.1 rfl (lv_room (Nat.le_of_ble_eq_true rfl)) dX3_letCarsAct_7 ⟨(Nat.le_of_ble_eq_true rfl), (Nat.le_of_ble_eq_true rfl)⟩) hS (fun q _ h => hFc q h) hFc (fun r u t H locs ht hvm hw hB hz1 hk1 hS => ?_)
  obtain ⟨rfl, rfl⟩ := hw
  obtain ⟨hP, hD, hK⟩ := tw_join (wr := [(x, .inr (7, [.ref c1, .ref ps1, .ref lg, .int 9, .int 99, .int t5, .int 0, .int 0, .int ((-1)), .int 0, .int 0, .long 0]))]) hP hD hK [1] [0] rfl rfl (by decide) (by decide) hk1 hFc ht hvm hB
  have hP : va_P D vwCl [(x, .inr (7, [.ref c1, .ref ps1, .ref lg, .int 9, .int 99, .int t5, .int 0, .int 0, .int ((-1)), .int 0, .int 0, .long 0])), (c1, .inr (3, [.int 0, .ref em, .int 0]))] _ := hP
  have hD : va_D A [(x, .inr (7, [.ref c1, .ref ps1, .ref lg, .int 9, .int 99, .int t5, .int 0, .int 0, .int ((-1)), .int 0, .int 0, .long 0])), (c1, .inr (3, [.int 0, .ref em, .int 0]))] := hD
  have hK : va_K D vwCl [] s := hK
  refine W.widen (k := 0) (n := 0) (Nat.le_refl _) (Nat.le_refl _) ?_
  refine W.eq (g2 := F0 m 10 ls [.int 0, .int 0]) rfl ?_
  refine lv_icmp_ge (tgt := 77) hx hb dX3_letCarsAct_10 (by decide) (fun c9 => ?_) (fun c9 => absurd c9 (by decide))
  refine W.widen (k := 0) (n := 0) (Nat.le_of_ble_eq_true rfl) (Nat.le_of_ble_eq_true rfl) ?_
  have hP9 := hP.sub (ws' := [(x, .inr (7, [.ref c1, .ref ps1, .ref lg, .int 9, .int 99, .int t5, .int 0, .int 0, .int ((-1)), .int 0, .int 0, .long 0])), (c1, .inr (3, [.int 0, .ref em, .int 0]))]) [0, 1] rfl
  have hD9 := hD.sub (ws' := [(x, .inr (7, [.ref c1, .ref ps1, .ref lg, .int 9, .int 99, .int t5, .int 0, .int 0, .int ((-1)), .int 0, .int 0, .long 0])), (c1, .inr (3, [.int 0, .ref em, .int 0]))]) [0, 1] (by decide) rfl
  have hK9 := hK.sub (tys' := []) [] rfl
  exact W.vret hx hb hr (fun t ht hW => ⟨⟨([(x, .inr (7, [.ref c1, .ref ps1, .ref lg, .int 9, .int 99, .int t5, .int 0, .int 0, .int ((-1)), .int 0, .int 0, .long 0])), (c1, .inr (3, [.int 0, .ref em, .int 0]))], []), rfl, rfl, by rw [ht]; exact hP9, va_K.moved hW.alike hK9, hD9⟩, hS.F ht⟩) hS.2.2 dX3_letCarsAct_77
