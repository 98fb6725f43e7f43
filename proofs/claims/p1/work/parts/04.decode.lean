theorem dX0_begin_0 : decode cX0_begin 0 = .ok (.aload_n 0, 1) := by decide +kernel
theorem dX0_begin_1 : decode cX0_begin 1 = .ok (.getfield 9, 3) := by decide +kernel
theorem dX0_begin_4 : decode cX0_begin 4 = .ok (.astore_n 3, 1) := by decide +kernel
theorem dX0_begin_5 : decode cX0_begin 5 = .ok (.aload_n 0, 1) := by decide +kernel
theorem dX0_begin_6 : decode cX0_begin 6 = .ok (.aload_n 1, 1) := by decide +kernel
theorem dX0_begin_7 : decode cX0_begin 7 = .ok (.putfield 9, 3) := by decide +kernel
theorem dX0_begin_10 : decode cX0_begin 10 = .ok (.aload_n 0, 1) := by decide +kernel
theorem dX0_begin_11 : decode cX0_begin 11 = .ok (.iload_n 2, 1) := by decide +kernel
theorem dX0_begin_12 : decode cX0_begin 12 = .ok (.putfield 22, 3) := by decide +kernel
theorem dX0_begin_15 : decode cX0_begin 15 = .ok (.aload_n 0, 1) := by decide +kernel
theorem dX0_begin_16 : decode cX0_begin 16 = .ok (.iconst 0, 1) := by decide +kernel
theorem dX0_begin_17 : decode cX0_begin 17 = .ok (.putfield 25, 3) := by decide +kernel
theorem dX0_begin_20 : decode cX0_begin 20 = .ok (.aload_n 0, 1) := by decide +kernel
theorem dX0_begin_21 : decode cX0_begin 21 = .ok (.iconst 0, 1) := by decide +kernel
theorem dX0_begin_22 : decode cX0_begin 22 = .ok (.putfield 15, 3) := by decide +kernel
theorem dX0_begin_25 : decode cX0_begin 25 = .ok (.aload_n 0, 1) := by decide +kernel
theorem dX0_begin_26 : decode cX0_begin 26 = .ok (.iconst (-1), 1) := by decide +kernel
theorem dX0_begin_27 : decode cX0_begin 27 = .ok (.putfield 19, 3) := by decide +kernel
theorem dX0_begin_30 : decode cX0_begin 30 = .ok (.aload_n 3, 1) := by decide +kernel
theorem dX0_begin_31 : decode cX0_begin 31 = .ok (.areturn, 1) := by decide +kernel
theorem dX0_byteAt_0 : decode cX0_byteAt 0 = .ok (.iload_n 1, 1) := by decide +kernel
theorem dX0_byteAt_1 : decode cX0_byteAt 1 = .ok (.ifCond .lt 29, 3) := by decide +kernel
theorem dX0_byteAt_4 : decode cX0_byteAt 4 = .ok (.iload_n 1, 1) := by decide +kernel
theorem dX0_byteAt_5 : decode cX0_byteAt 5 = .ok (.aload_n 0, 1) := by decide +kernel
theorem dX0_byteAt_6 : decode cX0_byteAt 6 = .ok (.getfield 22, 3) := by decide +kernel
theorem dX0_byteAt_9 : decode cX0_byteAt 9 = .ok (.if_icmp .ge 21, 3) := by decide +kernel
theorem dX0_byteAt_12 : decode cX0_byteAt 12 = .ok (.iload_n 1, 1) := by decide +kernel
theorem dX0_byteAt_13 : decode cX0_byteAt 13 = .ok (.aload_n 0, 1) := by decide +kernel
theorem dX0_byteAt_14 : decode cX0_byteAt 14 = .ok (.getfield 9, 3) := by decide +kernel
theorem dX0_byteAt_17 : decode cX0_byteAt 17 = .ok (.arraylength, 1) := by decide +kernel
theorem dX0_byteAt_18 : decode cX0_byteAt 18 = .ok (.if_icmp .ge 12, 3) := by decide +kernel
theorem dX0_byteAt_21 : decode cX0_byteAt 21 = .ok (.aload_n 0, 1) := by decide +kernel
theorem dX0_byteAt_22 : decode cX0_byteAt 22 = .ok (.getfield 9, 3) := by decide +kernel
theorem dX0_byteAt_25 : decode cX0_byteAt 25 = .ok (.iload_n 1, 1) := by decide +kernel
theorem dX0_byteAt_26 : decode cX0_byteAt 26 = .ok (.iaload, 1) := by decide +kernel
theorem dX0_byteAt_27 : decode cX0_byteAt 27 = .ok (.goto 4, 3) := by decide +kernel
theorem dX0_byteAt_30 : decode cX0_byteAt 30 = .ok (.iconst (-1), 1) := by decide +kernel
theorem dX0_byteAt_31 : decode cX0_byteAt 31 = .ok (.ireturn, 1) := by decide +kernel
theorem dX0_fail_0 : decode cX0_fail 0 = .ok (.aload_n 0, 1) := by decide +kernel
theorem dX0_fail_1 : decode cX0_fail 1 = .ok (.getfield 15, 3) := by decide +kernel
theorem dX0_fail_4 : decode cX0_fail 4 = .ok (.ifCond .ne 13, 3) := by decide +kernel
theorem dX0_fail_7 : decode cX0_fail 7 = .ok (.aload_n 0, 1) := by decide +kernel
theorem dX0_fail_8 : decode cX0_fail 8 = .ok (.iload_n 1, 1) := by decide +kernel
theorem dX0_fail_9 : decode cX0_fail 9 = .ok (.putfield 15, 3) := by decide +kernel
theorem dX0_fail_12 : decode cX0_fail 12 = .ok (.aload_n 0, 1) := by decide +kernel
theorem dX0_fail_13 : decode cX0_fail 13 = .ok (.iload_n 2, 1) := by decide +kernel
theorem dX0_fail_14 : decode cX0_fail 14 = .ok (.putfield 19, 3) := by decide +kernel
theorem dX0_fail_17 : decode cX0_fail 17 = .ok (.iconst 0, 1) := by decide +kernel
theorem dX0_fail_18 : decode cX0_fail 18 = .ok (.ireturn, 1) := by decide +kernel
theorem dX0_failHere_0 : decode cX0_failHere 0 = .ok (.aload_n 0, 1) := by decide +kernel
theorem dX0_failHere_1 : decode cX0_failHere 1 = .ok (.iconst 2, 1) := by decide +kernel
theorem dX0_failHere_2 : decode cX0_failHere 2 = .ok (.aload_n 0, 1) := by decide +kernel
theorem dX0_failHere_3 : decode cX0_failHere 3 = .ok (.getfield 25, 3) := by decide +kernel
theorem dX0_failHere_6 : decode cX0_failHere 6 = .ok (.invokevirtual 32, 3) := by decide +kernel
theorem dX0_failHere_9 : decode cX0_failHere 9 = .ok (.ireturn, 1) := by decide +kernel
theorem dX0_goesOn_0 : decode cX0_goesOn 0 = .ok (.aload_n 0, 1) := by decide +kernel
theorem dX0_goesOn_1 : decode cX0_goesOn 1 = .ok (.getfield 15, 3) := by decide +kernel
theorem dX0_goesOn_4 : decode cX0_goesOn 4 = .ok (.ifCond .ne 18, 3) := by decide +kernel
theorem dX0_goesOn_7 : decode cX0_goesOn 7 = .ok (.aload_n 0, 1) := by decide +kernel
theorem dX0_goesOn_8 : decode cX0_goesOn 8 = .ok (.getfield 25, 3) := by decide +kernel
theorem dX0_goesOn_11 : decode cX0_goesOn 11 = .ok (.aload_n 0, 1) := by decide +kernel
theorem dX0_goesOn_12 : decode cX0_goesOn 12 = .ok (.getfield 22, 3) := by decide +kernel
theorem dX0_goesOn_15 : decode cX0_goesOn 15 = .ok (.if_icmp .ge 7, 3) := by decide +kernel
theorem dX0_goesOn_18 : decode cX0_goesOn 18 = .ok (.iconst 1, 1) := by decide +kernel
theorem dX0_goesOn_19 : decode cX0_goesOn 19 = .ok (.goto 4, 3) := by decide +kernel
theorem dX0_goesOn_22 : decode cX0_goesOn 22 = .ok (.iconst 0, 1) := by decide +kernel
theorem dX0_goesOn_23 : decode cX0_goesOn 23 = .ok (.ireturn, 1) := by decide +kernel
theorem dX0_init_0 : decode cX0_init 0 = .ok (.aload_n 0, 1) := by decide +kernel
theorem dX0_init_1 : decode cX0_init 1 = .ok (.invokespecial 3, 3) := by decide +kernel
theorem dX0_init_4 : decode cX0_init 4 = .ok (.aload_n 0, 1) := by decide +kernel
theorem dX0_init_5 : decode cX0_init 5 = .ok (.sipush 500, 3) := by decide +kernel
theorem dX0_init_8 : decode cX0_init 8 = .ok (.newarray .int, 2) := by decide +kernel
theorem dX0_init_10 : decode cX0_init 10 = .ok (.putfield 9, 3) := by decide +kernel
theorem dX0_init_13 : decode cX0_init 13 = .ok (.aload_n 0, 1) := by decide +kernel
theorem dX0_init_14 : decode cX0_init 14 = .ok (.iconst 0, 1) := by decide +kernel
theorem dX0_init_15 : decode cX0_init 15 = .ok (.putfield 15, 3) := by decide +kernel
theorem dX0_init_18 : decode cX0_init 18 = .ok (.aload_n 0, 1) := by decide +kernel
theorem dX0_init_19 : decode cX0_init 19 = .ok (.iconst (-1), 1) := by decide +kernel
theorem dX0_init_20 : decode cX0_init 20 = .ok (.putfield 19, 3) := by decide +kernel
theorem dX0_init_23 : decode cX0_init 23 = .ok (.return_, 1) := by decide +kernel
theorem dX1_clear_0 : decode cX1_clear 0 = .ok (.aload_n 0, 1) := by decide +kernel
theorem dX1_clear_1 : decode cX1_clear 1 = .ok (.iconst 0, 1) := by decide +kernel
theorem dX1_clear_2 : decode cX1_clear 2 = .ok (.putfield 26, 3) := by decide +kernel
theorem dX1_clear_5 : decode cX1_clear 5 = .ok (.return_, 1) := by decide +kernel
theorem dX1_init_0 : decode cX1_init 0 = .ok (.aload_n 0, 1) := by decide +kernel
theorem dX1_init_1 : decode cX1_init 1 = .ok (.invokespecial 1, 3) := by decide +kernel
theorem dX1_init_4 : decode cX1_init 4 = .ok (.aload_n 0, 1) := by decide +kernel
theorem dX1_init_5 : decode cX1_init 5 = .ok (.iload_n 1, 1) := by decide +kernel
theorem dX1_init_6 : decode cX1_init 6 = .ok (.iconst 0, 1) := by decide +kernel
theorem dX1_init_7 : decode cX1_init 7 = .ok (.invokestatic 7, 3) := by decide +kernel
theorem dX1_init_10 : decode cX1_init 10 = .ok (.putfield 13, 3) := by decide +kernel
theorem dX1_init_13 : decode cX1_init 13 = .ok (.aload_n 0, 1) := by decide +kernel
theorem dX1_init_14 : decode cX1_init 14 = .ok (.aload_n 0, 1) := by decide +kernel
theorem dX1_init_15 : decode cX1_init 15 = .ok (.getfield 13, 3) := by decide +kernel
theorem dX1_init_18 : decode cX1_init 18 = .ok (.newarray .int, 2) := by decide +kernel
theorem dX1_init_20 : decode cX1_init 20 = .ok (.putfield 19, 3) := by decide +kernel
theorem dX1_init_23 : decode cX1_init 23 = .ok (.aload_n 0, 1) := by decide +kernel
theorem dX1_init_24 : decode cX1_init 24 = .ok (.aload_n 0, 1) := by decide +kernel
theorem dX1_init_25 : decode cX1_init 25 = .ok (.getfield 13, 3) := by decide +kernel
theorem dX1_init_28 : decode cX1_init 28 = .ok (.newarray .int, 2) := by decide +kernel
theorem dX1_init_30 : decode cX1_init 30 = .ok (.putfield 23, 3) := by decide +kernel
theorem dX1_init_33 : decode cX1_init 33 = .ok (.return_, 1) := by decide +kernel
theorem dX2_clear_0 : decode cX2_clear 0 = .ok (.aload_n 0, 1) := by decide +kernel
theorem dX2_clear_1 : decode cX2_clear 1 = .ok (.iconst 0, 1) := by decide +kernel
theorem dX2_clear_2 : decode cX2_clear 2 = .ok (.putfield 24, 3) := by decide +kernel
theorem dX2_clear_5 : decode cX2_clear 5 = .ok (.aload_n 0, 1) := by decide +kernel
theorem dX2_clear_6 : decode cX2_clear 6 = .ok (.iconst 0, 1) := by decide +kernel
theorem dX2_clear_7 : decode cX2_clear 7 = .ok (.putfield 28, 3) := by decide +kernel
theorem dX2_clear_10 : decode cX2_clear 10 = .ok (.return_, 1) := by decide +kernel
theorem dX2_init_0 : decode cX2_init 0 = .ok (.aload_n 0, 1) := by decide +kernel
theorem dX2_init_1 : decode cX2_init 1 = .ok (.invokespecial 3, 3) := by decide +kernel
theorem dX2_init_4 : decode cX2_init 4 = .ok (.aload_n 0, 1) := by decide +kernel
theorem dX2_init_5 : decode cX2_init 5 = .ok (.sipush 150, 3) := by decide +kernel
theorem dX2_init_8 : decode cX2_init 8 = .ok (.newarray .int, 2) := by decide +kernel
theorem dX2_init_10 : decode cX2_init 10 = .ok (.putfield 9, 3) := by decide +kernel
theorem dX2_init_13 : decode cX2_init 13 = .ok (.aload_n 0, 1) := by decide +kernel
theorem dX2_init_14 : decode cX2_init 14 = .ok (.sipush 150, 3) := by decide +kernel
theorem dX2_init_17 : decode cX2_init 17 = .ok (.newarray .int, 2) := by decide +kernel
theorem dX2_init_19 : decode cX2_init 19 = .ok (.putfield 15, 3) := by decide +kernel
theorem dX2_init_22 : decode cX2_init 22 = .ok (.aload_n 0, 1) := by decide +kernel
theorem dX2_init_23 : decode cX2_init 23 = .ok (.sipush 150, 3) := by decide +kernel
theorem dX2_init_26 : decode cX2_init 26 = .ok (.newarray .int, 2) := by decide +kernel
theorem dX2_init_28 : decode cX2_init 28 = .ok (.putfield 18, 3) := by decide +kernel
theorem dX2_init_31 : decode cX2_init 31 = .ok (.aload_n 0, 1) := by decide +kernel
theorem dX2_init_32 : decode cX2_init 32 = .ok (.sipush 150, 3) := by decide +kernel
theorem dX2_init_35 : decode cX2_init 35 = .ok (.newarray .int, 2) := by decide +kernel
theorem dX2_init_37 : decode cX2_init 37 = .ok (.putfield 21, 3) := by decide +kernel
theorem dX2_init_40 : decode cX2_init 40 = .ok (.return_, 1) := by decide +kernel
theorem dX2_tell_0 : decode cX2_tell 0 = .ok (.iload_n 1, 1) := by decide +kernel
theorem dX2_tell_1 : decode cX2_tell 1 = .ok (.ifCond .lt 18, 3) := by decide +kernel
theorem dX2_tell_4 : decode cX2_tell 4 = .ok (.iload_n 1, 1) := by decide +kernel
theorem dX2_tell_5 : decode cX2_tell 5 = .ok (.aload_n 0, 1) := by decide +kernel
theorem dX2_tell_6 : decode cX2_tell 6 = .ok (.getfield 24, 3) := by decide +kernel
theorem dX2_tell_9 : decode cX2_tell 9 = .ok (.if_icmp .ge 10, 3) := by decide +kernel
theorem dX2_tell_12 : decode cX2_tell 12 = .ok (.iload_n 1, 1) := by decide +kernel
theorem dX2_tell_13 : decode cX2_tell 13 = .ok (.sipush 150, 3) := by decide +kernel
theorem dX2_tell_16 : decode cX2_tell 16 = .ok (.if_icmp .lt 5, 3) := by decide +kernel
theorem dX2_tell_19 : decode cX2_tell 19 = .ok (.iconst (-1), 1) := by decide +kernel
theorem dX2_tell_20 : decode cX2_tell 20 = .ok (.ireturn, 1) := by decide +kernel
theorem dX2_tell_21 : decode cX2_tell 21 = .ok (.iload_n 2, 1) := by decide +kernel
theorem dX2_tell_22 : decode cX2_tell 22 = .ok (.tableswitch 58 0 3 #[30, 37, 44, 51], 30) := by decide +kernel
theorem dX2_tell_52 : decode cX2_tell 52 = .ok (.aload_n 0, 1) := by decide +kernel
theorem dX2_tell_53 : decode cX2_tell 53 = .ok (.getfield 9, 3) := by decide +kernel
theorem dX2_tell_56 : decode cX2_tell 56 = .ok (.iload_n 1, 1) := by decide +kernel
theorem dX2_tell_57 : decode cX2_tell 57 = .ok (.iaload, 1) := by decide +kernel
theorem dX2_tell_58 : decode cX2_tell 58 = .ok (.ireturn, 1) := by decide +kernel
theorem dX2_tell_59 : decode cX2_tell 59 = .ok (.aload_n 0, 1) := by decide +kernel
theorem dX2_tell_60 : decode cX2_tell 60 = .ok (.getfield 15, 3) := by decide +kernel
theorem dX2_tell_63 : decode cX2_tell 63 = .ok (.iload_n 1, 1) := by decide +kernel
theorem dX2_tell_64 : decode cX2_tell 64 = .ok (.iaload, 1) := by decide +kernel
theorem dX2_tell_65 : decode cX2_tell 65 = .ok (.ireturn, 1) := by decide +kernel
theorem dX2_tell_66 : decode cX2_tell 66 = .ok (.aload_n 0, 1) := by decide +kernel
theorem dX2_tell_67 : decode cX2_tell 67 = .ok (.getfield 18, 3) := by decide +kernel
theorem dX2_tell_70 : decode cX2_tell 70 = .ok (.iload_n 1, 1) := by decide +kernel
theorem dX2_tell_71 : decode cX2_tell 71 = .ok (.iaload, 1) := by decide +kernel
theorem dX2_tell_72 : decode cX2_tell 72 = .ok (.ireturn, 1) := by decide +kernel
theorem dX2_tell_73 : decode cX2_tell 73 = .ok (.aload_n 0, 1) := by decide +kernel
theorem dX2_tell_74 : decode cX2_tell 74 = .ok (.getfield 21, 3) := by decide +kernel
theorem dX2_tell_77 : decode cX2_tell 77 = .ok (.iload_n 1, 1) := by decide +kernel
theorem dX2_tell_78 : decode cX2_tell 78 = .ok (.iaload, 1) := by decide +kernel
theorem dX2_tell_79 : decode cX2_tell 79 = .ok (.ireturn, 1) := by decide +kernel
theorem dX2_tell_80 : decode cX2_tell 80 = .ok (.iconst (-1), 1) := by decide +kernel
theorem dX2_tell_81 : decode cX2_tell 81 = .ok (.ireturn, 1) := by decide +kernel
theorem dX3_byteOf_0 : decode cX3_byteOf 0 = .ok (.aload_n 0, 1) := by decide +kernel
theorem dX3_byteOf_1 : decode cX3_byteOf 1 = .ok (.getfield 16, 3) := by decide +kernel
theorem dX3_byteOf_4 : decode cX3_byteOf 4 = .ok (.iload_n 1, 1) := by decide +kernel
theorem dX3_byteOf_5 : decode cX3_byteOf 5 = .ok (.invokevirtual 82, 3) := by decide +kernel
theorem dX3_byteOf_8 : decode cX3_byteOf 8 = .ok (.ireturn, 1) := by decide +kernel
theorem dX3_count_0 : decode cX3_count 0 = .ok (.iload_n 1, 1) := by decide +kernel
theorem dX3_count_1 : decode cX3_count 1 = .ok (.tableswitch 66 0 4 #[35, 43, 48, 53, 58], 35) := by decide +kernel
theorem dX3_count_36 : decode cX3_count 36 = .ok (.aload_n 0, 1) := by decide +kernel
theorem dX3_count_37 : decode cX3_count 37 = .ok (.getfield 23, 3) := by decide +kernel
theorem dX3_count_40 : decode cX3_count 40 = .ok (.getfield 72, 3) := by decide +kernel
theorem dX3_count_43 : decode cX3_count 43 = .ok (.ireturn, 1) := by decide +kernel
theorem dX3_count_44 : decode cX3_count 44 = .ok (.aload_n 0, 1) := by decide +kernel
theorem dX3_count_45 : decode cX3_count 45 = .ok (.getfield 86, 3) := by decide +kernel
theorem dX3_count_48 : decode cX3_count 48 = .ok (.ireturn, 1) := by decide +kernel
theorem dX3_count_49 : decode cX3_count 49 = .ok (.aload_n 0, 1) := by decide +kernel
theorem dX3_count_50 : decode cX3_count 50 = .ok (.getfield 89, 3) := by decide +kernel
theorem dX3_count_53 : decode cX3_count 53 = .ok (.ireturn, 1) := by decide +kernel
theorem dX3_count_54 : decode cX3_count 54 = .ok (.aload_n 0, 1) := by decide +kernel
theorem dX3_count_55 : decode cX3_count 55 = .ok (.getfield 43, 3) := by decide +kernel
theorem dX3_count_58 : decode cX3_count 58 = .ok (.ireturn, 1) := by decide +kernel
theorem dX3_count_59 : decode cX3_count 59 = .ok (.aload_n 0, 1) := by decide +kernel
theorem dX3_count_60 : decode cX3_count 60 = .ok (.getfield 23, 3) := by decide +kernel
theorem dX3_count_63 : decode cX3_count 63 = .ok (.getfield 92, 3) := by decide +kernel
theorem dX3_count_66 : decode cX3_count 66 = .ok (.ireturn, 1) := by decide +kernel
theorem dX3_count_67 : decode cX3_count 67 = .ok (.iconst (-1), 1) := by decide +kernel
theorem dX3_count_68 : decode cX3_count 68 = .ok (.ireturn, 1) := by decide +kernel
theorem dX3_init_0 : decode cX3_init 0 = .ok (.aload_n 0, 1) := by decide +kernel
theorem dX3_init_1 : decode cX3_init 1 = .ok (.invokespecial 1, 3) := by decide +kernel
theorem dX3_init_4 : decode cX3_init 4 = .ok (.aload_n 0, 1) := by decide +kernel
theorem dX3_init_5 : decode cX3_init 5 = .ok (.sipush 500, 3) := by decide +kernel
theorem dX3_init_8 : decode cX3_init 8 = .ok (.newarray .int, 2) := by decide +kernel
theorem dX3_init_10 : decode cX3_init 10 = .ok (.putfield 9, 3) := by decide +kernel
theorem dX3_init_13 : decode cX3_init 13 = .ok (.aload_n 0, 1) := by decide +kernel
theorem dX3_init_14 : decode cX3_init 14 = .ok (.new 13, 3) := by decide +kernel
theorem dX3_init_17 : decode cX3_init 17 = .ok (.dup, 1) := by decide +kernel
theorem dX3_init_18 : decode cX3_init 18 = .ok (.invokespecial 15, 3) := by decide +kernel
theorem dX3_init_21 : decode cX3_init 21 = .ok (.putfield 16, 3) := by decide +kernel
theorem dX3_init_24 : decode cX3_init 24 = .ok (.aload_n 0, 1) := by decide +kernel
theorem dX3_init_25 : decode cX3_init 25 = .ok (.new 20, 3) := by decide +kernel
theorem dX3_init_28 : decode cX3_init 28 = .ok (.dup, 1) := by decide +kernel
theorem dX3_init_29 : decode cX3_init 29 = .ok (.invokespecial 22, 3) := by decide +kernel
theorem dX3_init_32 : decode cX3_init 32 = .ok (.putfield 23, 3) := by decide +kernel
theorem dX3_init_35 : decode cX3_init 35 = .ok (.aload_n 0, 1) := by decide +kernel
theorem dX3_init_36 : decode cX3_init 36 = .ok (.new 27, 3) := by decide +kernel
theorem dX3_init_39 : decode cX3_init 39 = .ok (.dup, 1) := by decide +kernel
theorem dX3_init_40 : decode cX3_init 40 = .ok (.bipush 20, 2) := by decide +kernel
theorem dX3_init_42 : decode cX3_init 42 = .ok (.invokespecial 29, 3) := by decide +kernel
theorem dX3_init_45 : decode cX3_init 45 = .ok (.putfield 32, 3) := by decide +kernel
theorem dX3_init_48 : decode cX3_init 48 = .ok (.aload_n 0, 1) := by decide +kernel
theorem dX3_init_49 : decode cX3_init 49 = .ok (.new 27, 3) := by decide +kernel
theorem dX3_init_52 : decode cX3_init 52 = .ok (.dup, 1) := by decide +kernel
theorem dX3_init_53 : decode cX3_init 53 = .ok (.bipush 8, 2) := by decide +kernel
theorem dX3_init_55 : decode cX3_init 55 = .ok (.invokespecial 29, 3) := by decide +kernel
theorem dX3_init_58 : decode cX3_init 58 = .ok (.putfield 36, 3) := by decide +kernel
theorem dX3_init_61 : decode cX3_init 61 = .ok (.aload_n 0, 1) := by decide +kernel
theorem dX3_init_62 : decode cX3_init 62 = .ok (.iconst (-1), 1) := by decide +kernel
theorem dX3_init_63 : decode cX3_init 63 = .ok (.putfield 39, 3) := by decide +kernel
theorem dX3_init_66 : decode cX3_init 66 = .ok (.return_, 1) := by decide +kernel
theorem dX3_piece_0 : decode cX3_piece 0 = .ok (.aload_n 0, 1) := by decide +kernel
theorem dX3_piece_1 : decode cX3_piece 1 = .ok (.getfield 23, 3) := by decide +kernel
theorem dX3_piece_4 : decode cX3_piece 4 = .ok (.iload_n 1, 1) := by decide +kernel
theorem dX3_piece_5 : decode cX3_piece 5 = .ok (.iload_n 2, 1) := by decide +kernel
theorem dX3_piece_6 : decode cX3_piece 6 = .ok (.invokevirtual 78, 3) := by decide +kernel
theorem dX3_piece_9 : decode cX3_piece 9 = .ok (.ireturn, 1) := by decide +kernel
theorem dX3_place_0 : decode cX3_place 0 = .ok (.aload_n 0, 1) := by decide +kernel
theorem dX3_place_1 : decode cX3_place 1 = .ok (.getfield 16, 3) := by decide +kernel
theorem dX3_place_4 : decode cX3_place 4 = .ok (.getfield 75, 3) := by decide +kernel
theorem dX3_place_7 : decode cX3_place 7 = .ok (.ireturn, 1) := by decide +kernel
theorem dX3_put_0 : decode cX3_put 0 = .ok (.iload_n 3, 1) := by decide +kernel
theorem dX3_put_1 : decode cX3_put 1 = .ok (.iconst 1, 1) := by decide +kernel
theorem dX3_put_2 : decode cX3_put 2 = .ok (.if_icmp .lt 21, 3) := by decide +kernel
theorem dX3_put_5 : decode cX3_put 5 = .ok (.iload_n 3, 1) := by decide +kernel
theorem dX3_put_6 : decode cX3_put 6 = .ok (.bipush 8, 2) := by decide +kernel
theorem dX3_put_8 : decode cX3_put 8 = .ok (.if_icmp .gt 15, 3) := by decide +kernel
theorem dX3_put_11 : decode cX3_put 11 = .ok (.aload_n 0, 1) := by decide +kernel
theorem dX3_put_12 : decode cX3_put 12 = .ok (.getfield 43, 3) := by decide +kernel
theorem dX3_put_15 : decode cX3_put 15 = .ok (.sipush 500, 3) := by decide +kernel
theorem dX3_put_18 : decode cX3_put 18 = .ok (.iload_n 3, 1) := by decide +kernel
theorem dX3_put_19 : decode cX3_put 19 = .ok (.isub, 1) := by decide +kernel
theorem dX3_put_20 : decode cX3_put 20 = .ok (.if_icmp .le 5, 3) := by decide +kernel
theorem dX3_put_23 : decode cX3_put 23 = .ok (.iconst 0, 1) := by decide +kernel
theorem dX3_put_24 : decode cX3_put 24 = .ok (.ireturn, 1) := by decide +kernel
theorem dX3_put_25 : decode cX3_put 25 = .ok (.iload_n 3, 1) := by decide +kernel
theorem dX3_put_26 : decode cX3_put 26 = .ok (.iconst 1, 1) := by decide +kernel
theorem dX3_put_27 : decode cX3_put 27 = .ok (.isub, 1) := by decide +kernel
theorem dX3_put_28 : decode cX3_put 28 = .ok (.istore 4, 2) := by decide +kernel
theorem dX3_put_30 : decode cX3_put 30 = .ok (.iload 4, 2) := by decide +kernel
theorem dX3_put_32 : decode cX3_put 32 = .ok (.ifCond .lt 59, 3) := by decide +kernel
theorem dX3_put_35 : decode cX3_put 35 = .ok (.aload_n 0, 1) := by decide +kernel
theorem dX3_put_36 : decode cX3_put 36 = .ok (.getfield 43, 3) := by decide +kernel
theorem dX3_put_39 : decode cX3_put 39 = .ok (.ifCond .lt 46, 3) := by decide +kernel
theorem dX3_put_42 : decode cX3_put 42 = .ok (.aload_n 0, 1) := by decide +kernel
theorem dX3_put_43 : decode cX3_put 43 = .ok (.getfield 43, 3) := by decide +kernel
theorem dX3_put_46 : decode cX3_put 46 = .ok (.aload_n 0, 1) := by decide +kernel
theorem dX3_put_47 : decode cX3_put 47 = .ok (.getfield 9, 3) := by decide +kernel
theorem dX3_put_50 : decode cX3_put 50 = .ok (.arraylength, 1) := by decide +kernel
theorem dX3_put_51 : decode cX3_put 51 = .ok (.if_icmp .ge 34, 3) := by decide +kernel
theorem dX3_put_54 : decode cX3_put 54 = .ok (.aload_n 0, 1) := by decide +kernel
theorem dX3_put_55 : decode cX3_put 55 = .ok (.getfield 9, 3) := by decide +kernel
theorem dX3_put_58 : decode cX3_put 58 = .ok (.aload_n 0, 1) := by decide +kernel
theorem dX3_put_59 : decode cX3_put 59 = .ok (.getfield 43, 3) := by decide +kernel
theorem dX3_put_62 : decode cX3_put 62 = .ok (.lload_n 1, 1) := by decide +kernel
theorem dX3_put_63 : decode cX3_put 63 = .ok (.bipush 8, 2) := by decide +kernel
theorem dX3_put_65 : decode cX3_put 65 = .ok (.iload 4, 2) := by decide +kernel
theorem dX3_put_67 : decode cX3_put 67 = .ok (.imul, 1) := by decide +kernel
theorem dX3_put_68 : decode cX3_put 68 = .ok (.lushr, 1) := by decide +kernel
theorem dX3_put_69 : decode cX3_put 69 = .ok (.l2i, 1) := by decide +kernel
theorem dX3_put_70 : decode cX3_put 70 = .ok (.sipush 255, 3) := by decide +kernel
theorem dX3_put_73 : decode cX3_put 73 = .ok (.iand, 1) := by decide +kernel
theorem dX3_put_74 : decode cX3_put 74 = .ok (.iastore, 1) := by decide +kernel
theorem dX3_put_75 : decode cX3_put 75 = .ok (.aload_n 0, 1) := by decide +kernel
theorem dX3_put_76 : decode cX3_put 76 = .ok (.dup, 1) := by decide +kernel
theorem dX3_put_77 : decode cX3_put 77 = .ok (.getfield 43, 3) := by decide +kernel
theorem dX3_put_80 : decode cX3_put 80 = .ok (.iconst 1, 1) := by decide +kernel
theorem dX3_put_81 : decode cX3_put 81 = .ok (.iadd, 1) := by decide +kernel
theorem dX3_put_82 : decode cX3_put 82 = .ok (.putfield 43, 3) := by decide +kernel
theorem dX3_put_85 : decode cX3_put 85 = .ok (.iinc 4 (-1), 3) := by decide +kernel
theorem dX3_put_88 : decode cX3_put 88 = .ok (.goto (-58), 3) := by decide +kernel
theorem dX3_put_91 : decode cX3_put 91 = .ok (.iconst 1, 1) := by decide +kernel
theorem dX3_put_92 : decode cX3_put 92 = .ok (.ireturn, 1) := by decide +kernel
