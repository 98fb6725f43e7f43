theorem dX4_add_0 : decode cX4_add 0 = .ok (.aload_n 0, 1) := by decide +kernel
theorem dX4_add_1 : decode cX4_add 1 = .ok (.getfield 66, 3) := by decide +kernel
theorem dX4_add_4 : decode cX4_add 4 = .ok (.sipush 150, 3) := by decide +kernel
theorem dX4_add_7 : decode cX4_add 7 = .ok (.if_icmp .ne 11, 3) := by decide +kernel
theorem dX4_add_10 : decode cX4_add 10 = .ok (.aload_n 0, 1) := by decide +kernel
theorem dX4_add_11 : decode cX4_add 11 = .ok (.bipush 15, 2) := by decide +kernel
theorem dX4_add_13 : decode cX4_add 13 = .ok (.iload_n 2, 1) := by decide +kernel
theorem dX4_add_14 : decode cX4_add 14 = .ok (.invokevirtual 62, 3) := by decide +kernel
theorem dX4_add_17 : decode cX4_add 17 = .ok (.ireturn, 1) := by decide +kernel
theorem dX4_add_18 : decode cX4_add 18 = .ok (.aload_n 0, 1) := by decide +kernel
theorem dX4_add_19 : decode cX4_add 19 = .ok (.getfield 16, 3) := by decide +kernel
theorem dX4_add_22 : decode cX4_add 22 = .ok (.aload_n 0, 1) := by decide +kernel
theorem dX4_add_23 : decode cX4_add 23 = .ok (.getfield 66, 3) := by decide +kernel
theorem dX4_add_26 : decode cX4_add 26 = .ok (.iload_n 1, 1) := by decide +kernel
theorem dX4_add_27 : decode cX4_add 27 = .ok (.iastore, 1) := by decide +kernel
theorem dX4_add_28 : decode cX4_add 28 = .ok (.aload_n 0, 1) := by decide +kernel
theorem dX4_add_29 : decode cX4_add 29 = .ok (.getfield 19, 3) := by decide +kernel
theorem dX4_add_32 : decode cX4_add 32 = .ok (.aload_n 0, 1) := by decide +kernel
theorem dX4_add_33 : decode cX4_add 33 = .ok (.getfield 66, 3) := by decide +kernel
theorem dX4_add_36 : decode cX4_add 36 = .ok (.iload_n 2, 1) := by decide +kernel
theorem dX4_add_37 : decode cX4_add 37 = .ok (.iastore, 1) := by decide +kernel
theorem dX4_add_38 : decode cX4_add 38 = .ok (.aload_n 0, 1) := by decide +kernel
theorem dX4_add_39 : decode cX4_add 39 = .ok (.getfield 22, 3) := by decide +kernel
theorem dX4_add_42 : decode cX4_add 42 = .ok (.aload_n 0, 1) := by decide +kernel
theorem dX4_add_43 : decode cX4_add 43 = .ok (.getfield 66, 3) := by decide +kernel
theorem dX4_add_46 : decode cX4_add 46 = .ok (.iload_n 3, 1) := by decide +kernel
theorem dX4_add_47 : decode cX4_add 47 = .ok (.iastore, 1) := by decide +kernel
theorem dX4_add_48 : decode cX4_add 48 = .ok (.aload_n 0, 1) := by decide +kernel
theorem dX4_add_49 : decode cX4_add 49 = .ok (.getfield 25, 3) := by decide +kernel
theorem dX4_add_52 : decode cX4_add 52 = .ok (.aload_n 0, 1) := by decide +kernel
theorem dX4_add_53 : decode cX4_add 53 = .ok (.getfield 66, 3) := by decide +kernel
theorem dX4_add_56 : decode cX4_add 56 = .ok (.iload 4, 2) := by decide +kernel
theorem dX4_add_58 : decode cX4_add 58 = .ok (.iastore, 1) := by decide +kernel
theorem dX4_add_59 : decode cX4_add 59 = .ok (.aload_n 0, 1) := by decide +kernel
theorem dX4_add_60 : decode cX4_add 60 = .ok (.aload_n 0, 1) := by decide +kernel
theorem dX4_add_61 : decode cX4_add 61 = .ok (.getfield 66, 3) := by decide +kernel
theorem dX4_add_64 : decode cX4_add 64 = .ok (.iconst 1, 1) := by decide +kernel
theorem dX4_add_65 : decode cX4_add 65 = .ok (.iadd, 1) := by decide +kernel
theorem dX4_add_66 : decode cX4_add 66 = .ok (.putfield 66, 3) := by decide +kernel
theorem dX4_add_69 : decode cX4_add 69 = .ok (.iconst 0, 1) := by decide +kernel
theorem dX4_add_70 : decode cX4_add 70 = .ok (.ireturn, 1) := by decide +kernel
theorem dX4_attributeName_0 : decode cX4_attributeName 0 = .ok (.iload_n 1, 1) := by decide +kernel
theorem dX4_attributeName_1 : decode cX4_attributeName 1 = .ok (.invokestatic 108, 3) := by decide +kernel
theorem dX4_attributeName_4 : decode cX4_attributeName 4 = .ok (.ifCond .eq 5, 3) := by decide +kernel
theorem dX4_attributeName_7 : decode cX4_attributeName 7 = .ok (.iconst 0, 1) := by decide +kernel
theorem dX4_attributeName_8 : decode cX4_attributeName 8 = .ok (.ireturn, 1) := by decide +kernel
theorem dX4_attributeName_9 : decode cX4_attributeName 9 = .ok (.iconst 0, 1) := by decide +kernel
theorem dX4_attributeName_10 : decode cX4_attributeName 10 = .ok (.istore_n 2, 1) := by decide +kernel
theorem dX4_attributeName_11 : decode cX4_attributeName 11 = .ok (.iload_n 2, 1) := by decide +kernel
theorem dX4_attributeName_12 : decode cX4_attributeName 12 = .ok (.aload_n 0, 1) := by decide +kernel
theorem dX4_attributeName_13 : decode cX4_attributeName 13 = .ok (.getfield 121, 3) := by decide +kernel
theorem dX4_attributeName_16 : decode cX4_attributeName 16 = .ok (.if_icmp .ge 51, 3) := by decide +kernel
theorem dX4_attributeName_19 : decode cX4_attributeName 19 = .ok (.aload_n 0, 1) := by decide +kernel
theorem dX4_attributeName_20 : decode cX4_attributeName 20 = .ok (.aload_n 0, 1) := by decide +kernel
theorem dX4_attributeName_21 : decode cX4_attributeName 21 = .ok (.getfield 86, 3) := by decide +kernel
theorem dX4_attributeName_24 : decode cX4_attributeName 24 = .ok (.aload_n 0, 1) := by decide +kernel
theorem dX4_attributeName_25 : decode cX4_attributeName 25 = .ok (.getfield 59, 3) := by decide +kernel
theorem dX4_attributeName_28 : decode cX4_attributeName 28 = .ok (.aload_n 0, 1) := by decide +kernel
theorem dX4_attributeName_29 : decode cX4_attributeName 29 = .ok (.getfield 86, 3) := by decide +kernel
theorem dX4_attributeName_32 : decode cX4_attributeName 32 = .ok (.isub, 1) := by decide +kernel
theorem dX4_attributeName_33 : decode cX4_attributeName 33 = .ok (.aload_n 0, 1) := by decide +kernel
theorem dX4_attributeName_34 : decode cX4_attributeName 34 = .ok (.getfield 34, 3) := by decide +kernel
theorem dX4_attributeName_37 : decode cX4_attributeName 37 = .ok (.iload_n 2, 1) := by decide +kernel
theorem dX4_attributeName_38 : decode cX4_attributeName 38 = .ok (.iaload, 1) := by decide +kernel
theorem dX4_attributeName_39 : decode cX4_attributeName 39 = .ok (.aload_n 0, 1) := by decide +kernel
theorem dX4_attributeName_40 : decode cX4_attributeName 40 = .ok (.getfield 37, 3) := by decide +kernel
theorem dX4_attributeName_43 : decode cX4_attributeName 43 = .ok (.iload_n 2, 1) := by decide +kernel
theorem dX4_attributeName_44 : decode cX4_attributeName 44 = .ok (.iaload, 1) := by decide +kernel
theorem dX4_attributeName_45 : decode cX4_attributeName 45 = .ok (.invokevirtual 111, 3) := by decide +kernel
theorem dX4_attributeName_48 : decode cX4_attributeName 48 = .ok (.ifCond .eq 13, 3) := by decide +kernel
theorem dX4_attributeName_51 : decode cX4_attributeName 51 = .ok (.aload_n 0, 1) := by decide +kernel
theorem dX4_attributeName_52 : decode cX4_attributeName 52 = .ok (.iconst 4, 1) := by decide +kernel
theorem dX4_attributeName_53 : decode cX4_attributeName 53 = .ok (.aload_n 0, 1) := by decide +kernel
theorem dX4_attributeName_54 : decode cX4_attributeName 54 = .ok (.getfield 86, 3) := by decide +kernel
theorem dX4_attributeName_57 : decode cX4_attributeName 57 = .ok (.invokevirtual 62, 3) := by decide +kernel
theorem dX4_attributeName_60 : decode cX4_attributeName 60 = .ok (.ireturn, 1) := by decide +kernel
theorem dX4_attributeName_61 : decode cX4_attributeName 61 = .ok (.iinc 2 1, 3) := by decide +kernel
theorem dX4_attributeName_64 : decode cX4_attributeName 64 = .ok (.goto (-53), 3) := by decide +kernel
theorem dX4_attributeName_67 : decode cX4_attributeName 67 = .ok (.aload_n 0, 1) := by decide +kernel
theorem dX4_attributeName_68 : decode cX4_attributeName 68 = .ok (.getfield 121, 3) := by decide +kernel
theorem dX4_attributeName_71 : decode cX4_attributeName 71 = .ok (.bipush 8, 2) := by decide +kernel
theorem dX4_attributeName_73 : decode cX4_attributeName 73 = .ok (.if_icmp .ne 14, 3) := by decide +kernel
theorem dX4_attributeName_76 : decode cX4_attributeName 76 = .ok (.aload_n 0, 1) := by decide +kernel
theorem dX4_attributeName_77 : decode cX4_attributeName 77 = .ok (.bipush 15, 2) := by decide +kernel
theorem dX4_attributeName_79 : decode cX4_attributeName 79 = .ok (.aload_n 0, 1) := by decide +kernel
theorem dX4_attributeName_80 : decode cX4_attributeName 80 = .ok (.getfield 86, 3) := by decide +kernel
theorem dX4_attributeName_83 : decode cX4_attributeName 83 = .ok (.invokevirtual 62, 3) := by decide +kernel
theorem dX4_attributeName_86 : decode cX4_attributeName 86 = .ok (.ireturn, 1) := by decide +kernel
theorem dX4_attributeName_87 : decode cX4_attributeName 87 = .ok (.aload_n 0, 1) := by decide +kernel
theorem dX4_attributeName_88 : decode cX4_attributeName 88 = .ok (.getfield 34, 3) := by decide +kernel
theorem dX4_attributeName_91 : decode cX4_attributeName 91 = .ok (.aload_n 0, 1) := by decide +kernel
theorem dX4_attributeName_92 : decode cX4_attributeName 92 = .ok (.getfield 121, 3) := by decide +kernel
theorem dX4_attributeName_95 : decode cX4_attributeName 95 = .ok (.aload_n 0, 1) := by decide +kernel
theorem dX4_attributeName_96 : decode cX4_attributeName 96 = .ok (.getfield 86, 3) := by decide +kernel
theorem dX4_attributeName_99 : decode cX4_attributeName 99 = .ok (.iastore, 1) := by decide +kernel
theorem dX4_attributeName_100 : decode cX4_attributeName 100 = .ok (.aload_n 0, 1) := by decide +kernel
theorem dX4_attributeName_101 : decode cX4_attributeName 101 = .ok (.getfield 37, 3) := by decide +kernel
theorem dX4_attributeName_104 : decode cX4_attributeName 104 = .ok (.aload_n 0, 1) := by decide +kernel
theorem dX4_attributeName_105 : decode cX4_attributeName 105 = .ok (.getfield 121, 3) := by decide +kernel
theorem dX4_attributeName_108 : decode cX4_attributeName 108 = .ok (.aload_n 0, 1) := by decide +kernel
theorem dX4_attributeName_109 : decode cX4_attributeName 109 = .ok (.getfield 59, 3) := by decide +kernel
theorem dX4_attributeName_112 : decode cX4_attributeName 112 = .ok (.aload_n 0, 1) := by decide +kernel
theorem dX4_attributeName_113 : decode cX4_attributeName 113 = .ok (.getfield 86, 3) := by decide +kernel
theorem dX4_attributeName_116 : decode cX4_attributeName 116 = .ok (.isub, 1) := by decide +kernel
theorem dX4_attributeName_117 : decode cX4_attributeName 117 = .ok (.iastore, 1) := by decide +kernel
theorem dX4_attributeName_118 : decode cX4_attributeName 118 = .ok (.aload_n 0, 1) := by decide +kernel
theorem dX4_attributeName_119 : decode cX4_attributeName 119 = .ok (.aload_n 0, 1) := by decide +kernel
theorem dX4_attributeName_120 : decode cX4_attributeName 120 = .ok (.getfield 121, 3) := by decide +kernel
theorem dX4_attributeName_123 : decode cX4_attributeName 123 = .ok (.iconst 1, 1) := by decide +kernel
theorem dX4_attributeName_124 : decode cX4_attributeName 124 = .ok (.iadd, 1) := by decide +kernel
theorem dX4_attributeName_125 : decode cX4_attributeName 125 = .ok (.putfield 121, 3) := by decide +kernel
theorem dX4_attributeName_128 : decode cX4_attributeName 128 = .ok (.aload_n 0, 1) := by decide +kernel
theorem dX4_attributeName_129 : decode cX4_attributeName 129 = .ok (.iload_n 1, 1) := by decide +kernel
theorem dX4_attributeName_130 : decode cX4_attributeName 130 = .ok (.invokevirtual 127, 3) := by decide +kernel
theorem dX4_attributeName_133 : decode cX4_attributeName 133 = .ok (.ireturn, 1) := by decide +kernel
theorem dX4_bang_0 : decode cX4_bang 0 = .ok (.aload_n 0, 1) := by decide +kernel
theorem dX4_bang_1 : decode cX4_bang 1 = .ok (.iconst 0, 1) := by decide +kernel
theorem dX4_bang_2 : decode cX4_bang 2 = .ok (.putfield 142, 3) := by decide +kernel
theorem dX4_bang_5 : decode cX4_bang 5 = .ok (.iload_n 1, 1) := by decide +kernel
theorem dX4_bang_6 : decode cX4_bang 6 = .ok (.bipush 45, 2) := by decide +kernel
theorem dX4_bang_8 : decode cX4_bang 8 = .ok (.if_icmp .ne 11, 3) := by decide +kernel
theorem dX4_bang_11 : decode cX4_bang 11 = .ok (.aload_n 0, 1) := by decide +kernel
theorem dX4_bang_12 : decode cX4_bang 12 = .ok (.iconst 3, 1) := by decide +kernel
theorem dX4_bang_13 : decode cX4_bang 13 = .ok (.invokevirtual 82, 3) := by decide +kernel
theorem dX4_bang_16 : decode cX4_bang 16 = .ok (.goto 30, 3) := by decide +kernel
theorem dX4_bang_19 : decode cX4_bang 19 = .ok (.iload_n 1, 1) := by decide +kernel
theorem dX4_bang_20 : decode cX4_bang 20 = .ok (.bipush 91, 2) := by decide +kernel
theorem dX4_bang_22 : decode cX4_bang 22 = .ok (.if_icmp .ne 20, 3) := by decide +kernel
theorem dX4_bang_25 : decode cX4_bang 25 = .ok (.aload_n 0, 1) := by decide +kernel
theorem dX4_bang_26 : decode cX4_bang 26 = .ok (.getfield 79, 3) := by decide +kernel
theorem dX4_bang_29 : decode cX4_bang 29 = .ok (.iconst 1, 1) := by decide +kernel
theorem dX4_bang_30 : decode cX4_bang 30 = .ok (.if_icmp .ne 12, 3) := by decide +kernel
theorem dX4_bang_33 : decode cX4_bang 33 = .ok (.aload_n 0, 1) := by decide +kernel
theorem dX4_bang_34 : decode cX4_bang 34 = .ok (.bipush 40, 2) := by decide +kernel
theorem dX4_bang_36 : decode cX4_bang 36 = .ok (.invokevirtual 82, 3) := by decide +kernel
theorem dX4_bang_39 : decode cX4_bang 39 = .ok (.goto 7, 3) := by decide +kernel
theorem dX4_bang_42 : decode cX4_bang 42 = .ok (.aload_n 0, 1) := by decide +kernel
theorem dX4_bang_43 : decode cX4_bang 43 = .ok (.invokevirtual 92, 3) := by decide +kernel
theorem dX4_bang_46 : decode cX4_bang 46 = .ok (.ireturn, 1) := by decide +kernel
theorem dX4_byteOf_0 : decode cX4_byteOf 0 = .ok (.iload_n 1, 1) := by decide +kernel
theorem dX4_byteOf_1 : decode cX4_byteOf 1 = .ok (.ifCond .lt 20, 3) := by decide +kernel
theorem dX4_byteOf_4 : decode cX4_byteOf 4 = .ok (.iload_n 1, 1) := by decide +kernel
theorem dX4_byteOf_5 : decode cX4_byteOf 5 = .ok (.aload_n 0, 1) := by decide +kernel
theorem dX4_byteOf_6 : decode cX4_byteOf 6 = .ok (.getfield 234, 3) := by decide +kernel
theorem dX4_byteOf_9 : decode cX4_byteOf 9 = .ok (.if_icmp .ge 12, 3) := by decide +kernel
theorem dX4_byteOf_12 : decode cX4_byteOf 12 = .ok (.aload_n 0, 1) := by decide +kernel
theorem dX4_byteOf_13 : decode cX4_byteOf 13 = .ok (.getfield 13, 3) := by decide +kernel
theorem dX4_byteOf_16 : decode cX4_byteOf 16 = .ok (.iload_n 1, 1) := by decide +kernel
theorem dX4_byteOf_17 : decode cX4_byteOf 17 = .ok (.iaload, 1) := by decide +kernel
theorem dX4_byteOf_18 : decode cX4_byteOf 18 = .ok (.goto 4, 3) := by decide +kernel
theorem dX4_byteOf_21 : decode cX4_byteOf 21 = .ok (.iconst (-1), 1) := by decide +kernel
theorem dX4_byteOf_22 : decode cX4_byteOf 22 = .ok (.ireturn, 1) := by decide +kernel
theorem dX4_closeCharacters_0 : decode cX4_closeCharacters 0 = .ok (.aload_n 0, 1) := by decide +kernel
theorem dX4_closeCharacters_1 : decode cX4_closeCharacters 1 = .ok (.getfield 149, 3) := by decide +kernel
theorem dX4_closeCharacters_4 : decode cX4_closeCharacters 4 = .ok (.istore_n 1, 1) := by decide +kernel
theorem dX4_closeCharacters_5 : decode cX4_closeCharacters 5 = .ok (.aload_n 0, 1) := by decide +kernel
theorem dX4_closeCharacters_6 : decode cX4_closeCharacters 6 = .ok (.iconst (-1), 1) := by decide +kernel
theorem dX4_closeCharacters_7 : decode cX4_closeCharacters 7 = .ok (.putfield 149, 3) := by decide +kernel
theorem dX4_closeCharacters_10 : decode cX4_closeCharacters 10 = .ok (.aload_n 0, 1) := by decide +kernel
theorem dX4_closeCharacters_11 : decode cX4_closeCharacters 11 = .ok (.iconst 0, 1) := by decide +kernel
theorem dX4_closeCharacters_12 : decode cX4_closeCharacters 12 = .ok (.putfield 152, 3) := by decide +kernel
theorem dX4_closeCharacters_15 : decode cX4_closeCharacters 15 = .ok (.iload_n 1, 1) := by decide +kernel
theorem dX4_closeCharacters_16 : decode cX4_closeCharacters 16 = .ok (.ifCond .ge 7, 3) := by decide +kernel
theorem dX4_closeCharacters_19 : decode cX4_closeCharacters 19 = .ok (.iconst 0, 1) := by decide +kernel
theorem dX4_closeCharacters_20 : decode cX4_closeCharacters 20 = .ok (.goto 17, 3) := by decide +kernel
theorem dX4_closeCharacters_23 : decode cX4_closeCharacters 23 = .ok (.aload_n 0, 1) := by decide +kernel
theorem dX4_closeCharacters_24 : decode cX4_closeCharacters 24 = .ok (.iconst 4, 1) := by decide +kernel
theorem dX4_closeCharacters_25 : decode cX4_closeCharacters 25 = .ok (.iload_n 1, 1) := by decide +kernel
theorem dX4_closeCharacters_26 : decode cX4_closeCharacters 26 = .ok (.aload_n 0, 1) := by decide +kernel
theorem dX4_closeCharacters_27 : decode cX4_closeCharacters 27 = .ok (.getfield 59, 3) := by decide +kernel
theorem dX4_closeCharacters_30 : decode cX4_closeCharacters 30 = .ok (.aload_n 0, 1) := by decide +kernel
theorem dX4_closeCharacters_31 : decode cX4_closeCharacters 31 = .ok (.getfield 72, 3) := by decide +kernel
theorem dX4_closeCharacters_34 : decode cX4_closeCharacters 34 = .ok (.invokevirtual 75, 3) := by decide +kernel
theorem dX4_closeCharacters_37 : decode cX4_closeCharacters 37 = .ok (.ireturn, 1) := by decide +kernel
theorem dX4_closed_0 : decode cX4_closed 0 = .ok (.aload_n 0, 1) := by decide +kernel
theorem dX4_closed_1 : decode cX4_closed 1 = .ok (.iload_n 1, 1) := by decide +kernel
theorem dX4_closed_2 : decode cX4_closed 2 = .ok (.aload_n 0, 1) := by decide +kernel
theorem dX4_closed_3 : decode cX4_closed 3 = .ok (.getfield 69, 3) := by decide +kernel
theorem dX4_closed_6 : decode cX4_closed 6 = .ok (.aload_n 0, 1) := by decide +kernel
theorem dX4_closed_7 : decode cX4_closed 7 = .ok (.getfield 59, 3) := by decide +kernel
theorem dX4_closed_10 : decode cX4_closed 10 = .ok (.iconst 1, 1) := by decide +kernel
theorem dX4_closed_11 : decode cX4_closed 11 = .ok (.iadd, 1) := by decide +kernel
theorem dX4_closed_12 : decode cX4_closed 12 = .ok (.aload_n 0, 1) := by decide +kernel
theorem dX4_closed_13 : decode cX4_closed 13 = .ok (.getfield 72, 3) := by decide +kernel
theorem dX4_closed_16 : decode cX4_closed 16 = .ok (.invokevirtual 75, 3) := by decide +kernel
theorem dX4_closed_19 : decode cX4_closed 19 = .ok (.ifCond .ge 7, 3) := by decide +kernel
theorem dX4_closed_22 : decode cX4_closed 22 = .ok (.iconst (-1), 1) := by decide +kernel
theorem dX4_closed_23 : decode cX4_closed 23 = .ok (.goto 21, 3) := by decide +kernel
theorem dX4_closed_26 : decode cX4_closed 26 = .ok (.aload_n 0, 1) := by decide +kernel
theorem dX4_closed_27 : decode cX4_closed 27 = .ok (.aload_n 0, 1) := by decide +kernel
theorem dX4_closed_28 : decode cX4_closed 28 = .ok (.getfield 79, 3) := by decide +kernel
theorem dX4_closed_31 : decode cX4_closed 31 = .ok (.iconst 1, 1) := by decide +kernel
theorem dX4_closed_32 : decode cX4_closed 32 = .ok (.if_icmp .ne 8, 3) := by decide +kernel
theorem dX4_closed_35 : decode cX4_closed 35 = .ok (.bipush 50, 2) := by decide +kernel
theorem dX4_closed_37 : decode cX4_closed 37 = .ok (.goto 4, 3) := by decide +kernel
theorem dX4_closed_40 : decode cX4_closed 40 = .ok (.iconst 0, 1) := by decide +kernel
theorem dX4_closed_41 : decode cX4_closed 41 = .ok (.invokevirtual 82, 3) := by decide +kernel
theorem dX4_closed_44 : decode cX4_closed 44 = .ok (.ireturn, 1) := by decide +kernel
theorem dX4_content_0 : decode cX4_content 0 = .ok (.iload_n 1, 1) := by decide +kernel
theorem dX4_content_1 : decode cX4_content 1 = .ok (.bipush 60, 2) := by decide +kernel
theorem dX4_content_3 : decode cX4_content 3 = .ok (.if_icmp .eq 9, 3) := by decide +kernel
theorem dX4_content_6 : decode cX4_content 6 = .ok (.iload_n 1, 1) := by decide +kernel
theorem dX4_content_7 : decode cX4_content 7 = .ok (.bipush 38, 2) := by decide +kernel
theorem dX4_content_9 : decode cX4_content 9 = .ok (.if_icmp .ne 45, 3) := by decide +kernel
theorem dX4_content_12 : decode cX4_content 12 = .ok (.aload_n 0, 1) := by decide +kernel
theorem dX4_content_13 : decode cX4_content 13 = .ok (.invokevirtual 155, 3) := by decide +kernel
theorem dX4_content_16 : decode cX4_content 16 = .ok (.ifCond .ge 5, 3) := by decide +kernel
theorem dX4_content_19 : decode cX4_content 19 = .ok (.iconst (-1), 1) := by decide +kernel
theorem dX4_content_20 : decode cX4_content 20 = .ok (.ireturn, 1) := by decide +kernel
theorem dX4_content_21 : decode cX4_content 21 = .ok (.aload_n 0, 1) := by decide +kernel
theorem dX4_content_22 : decode cX4_content 22 = .ok (.aload_n 0, 1) := by decide +kernel
theorem dX4_content_23 : decode cX4_content 23 = .ok (.getfield 59, 3) := by decide +kernel
theorem dX4_content_26 : decode cX4_content 26 = .ok (.putfield 69, 3) := by decide +kernel
theorem dX4_content_29 : decode cX4_content 29 = .ok (.aload_n 0, 1) := by decide +kernel
theorem dX4_content_30 : decode cX4_content 30 = .ok (.aload_n 0, 1) := by decide +kernel
theorem dX4_content_31 : decode cX4_content 31 = .ok (.getfield 59, 3) := by decide +kernel
theorem dX4_content_34 : decode cX4_content 34 = .ok (.putfield 136, 3) := by decide +kernel
theorem dX4_content_37 : decode cX4_content 37 = .ok (.aload_n 0, 1) := by decide +kernel
theorem dX4_content_38 : decode cX4_content 38 = .ok (.iload_n 1, 1) := by decide +kernel
theorem dX4_content_39 : decode cX4_content 39 = .ok (.bipush 60, 2) := by decide +kernel
theorem dX4_content_41 : decode cX4_content 41 = .ok (.if_icmp .ne 7, 3) := by decide +kernel
theorem dX4_content_44 : decode cX4_content 44 = .ok (.iconst 1, 1) := by decide +kernel
theorem dX4_content_45 : decode cX4_content 45 = .ok (.goto 5, 3) := by decide +kernel
theorem dX4_content_48 : decode cX4_content 48 = .ok (.bipush 60, 2) := by decide +kernel
theorem dX4_content_50 : decode cX4_content 50 = .ok (.invokevirtual 82, 3) := by decide +kernel
theorem dX4_content_53 : decode cX4_content 53 = .ok (.ireturn, 1) := by decide +kernel
theorem dX4_content_54 : decode cX4_content 54 = .ok (.iload_n 1, 1) := by decide +kernel
theorem dX4_content_55 : decode cX4_content 55 = .ok (.invokestatic 139, 3) := by decide +kernel
theorem dX4_content_58 : decode cX4_content 58 = .ok (.ifCond .eq 17, 3) := by decide +kernel
theorem dX4_content_61 : decode cX4_content 61 = .ok (.iload_n 1, 1) := by decide +kernel
theorem dX4_content_62 : decode cX4_content 62 = .ok (.bipush 62, 2) := by decide +kernel
theorem dX4_content_64 : decode cX4_content 64 = .ok (.if_icmp .ne 16, 3) := by decide +kernel
theorem dX4_content_67 : decode cX4_content 67 = .ok (.aload_n 0, 1) := by decide +kernel
theorem dX4_content_68 : decode cX4_content 68 = .ok (.getfield 152, 3) := by decide +kernel
theorem dX4_content_71 : decode cX4_content 71 = .ok (.iconst 1, 1) := by decide +kernel
theorem dX4_content_72 : decode cX4_content 72 = .ok (.if_icmp .le 8, 3) := by decide +kernel
theorem dX4_content_75 : decode cX4_content 75 = .ok (.aload_n 0, 1) := by decide +kernel
theorem dX4_content_76 : decode cX4_content 76 = .ok (.invokevirtual 92, 3) := by decide +kernel
theorem dX4_content_79 : decode cX4_content 79 = .ok (.ireturn, 1) := by decide +kernel
theorem dX4_content_80 : decode cX4_content 80 = .ok (.aload_n 0, 1) := by decide +kernel
theorem dX4_content_81 : decode cX4_content 81 = .ok (.aload_n 0, 1) := by decide +kernel
theorem dX4_content_82 : decode cX4_content 82 = .ok (.getfield 149, 3) := by decide +kernel
theorem dX4_content_85 : decode cX4_content 85 = .ok (.ifCond .ge 10, 3) := by decide +kernel
theorem dX4_content_88 : decode cX4_content 88 = .ok (.aload_n 0, 1) := by decide +kernel
theorem dX4_content_89 : decode cX4_content 89 = .ok (.getfield 59, 3) := by decide +kernel
theorem dX4_content_92 : decode cX4_content 92 = .ok (.goto 7, 3) := by decide +kernel
theorem dX4_content_95 : decode cX4_content 95 = .ok (.aload_n 0, 1) := by decide +kernel
theorem dX4_content_96 : decode cX4_content 96 = .ok (.getfield 149, 3) := by decide +kernel
theorem dX4_content_99 : decode cX4_content 99 = .ok (.putfield 149, 3) := by decide +kernel
theorem dX4_content_102 : decode cX4_content 102 = .ok (.aload_n 0, 1) := by decide +kernel
theorem dX4_content_103 : decode cX4_content 103 = .ok (.iload_n 1, 1) := by decide +kernel
theorem dX4_content_104 : decode cX4_content 104 = .ok (.bipush 93, 2) := by decide +kernel
theorem dX4_content_106 : decode cX4_content 106 = .ok (.if_icmp .ne 12, 3) := by decide +kernel
theorem dX4_content_109 : decode cX4_content 109 = .ok (.aload_n 0, 1) := by decide +kernel
theorem dX4_content_110 : decode cX4_content 110 = .ok (.getfield 152, 3) := by decide +kernel
theorem dX4_content_113 : decode cX4_content 113 = .ok (.iconst 1, 1) := by decide +kernel
theorem dX4_content_114 : decode cX4_content 114 = .ok (.iadd, 1) := by decide +kernel
theorem dX4_content_115 : decode cX4_content 115 = .ok (.goto 4, 3) := by decide +kernel
theorem dX4_content_118 : decode cX4_content 118 = .ok (.iconst 0, 1) := by decide +kernel
theorem dX4_content_119 : decode cX4_content 119 = .ok (.putfield 152, 3) := by decide +kernel
theorem dX4_content_122 : decode cX4_content 122 = .ok (.iconst 0, 1) := by decide +kernel
theorem dX4_content_123 : decode cX4_content 123 = .ok (.ireturn, 1) := by decide +kernel
theorem dX4_count_0 : decode cX4_count 0 = .ok (.iload_n 1, 1) := by decide +kernel
theorem dX4_count_1 : decode cX4_count 1 = .ok (.tableswitch 60 0 4 #[35, 40, 45, 50, 55], 35) := by decide +kernel
theorem dX4_count_36 : decode cX4_count 36 = .ok (.aload_n 0, 1) := by decide +kernel
theorem dX4_count_37 : decode cX4_count 37 = .ok (.getfield 66, 3) := by decide +kernel
theorem dX4_count_40 : decode cX4_count 40 = .ok (.ireturn, 1) := by decide +kernel
theorem dX4_count_41 : decode cX4_count 41 = .ok (.aload_n 0, 1) := by decide +kernel
theorem dX4_count_42 : decode cX4_count 42 = .ok (.getfield 118, 3) := by decide +kernel
theorem dX4_count_45 : decode cX4_count 45 = .ok (.ireturn, 1) := by decide +kernel
theorem dX4_count_46 : decode cX4_count 46 = .ok (.aload_n 0, 1) := by decide +kernel
theorem dX4_count_47 : decode cX4_count 47 = .ok (.getfield 102, 3) := by decide +kernel
theorem dX4_count_50 : decode cX4_count 50 = .ok (.ireturn, 1) := by decide +kernel
theorem dX4_count_51 : decode cX4_count 51 = .ok (.aload_n 0, 1) := by decide +kernel
theorem dX4_count_52 : decode cX4_count 52 = .ok (.getfield 44, 3) := by decide +kernel
theorem dX4_count_55 : decode cX4_count 55 = .ok (.ireturn, 1) := by decide +kernel
theorem dX4_count_56 : decode cX4_count 56 = .ok (.aload_n 0, 1) := by decide +kernel
theorem dX4_count_57 : decode cX4_count 57 = .ok (.getfield 133, 3) := by decide +kernel
theorem dX4_count_60 : decode cX4_count 60 = .ok (.ireturn, 1) := by decide +kernel
theorem dX4_count_61 : decode cX4_count 61 = .ok (.iconst (-1), 1) := by decide +kernel
theorem dX4_count_62 : decode cX4_count 62 = .ok (.ireturn, 1) := by decide +kernel
theorem dX4_digit_0 : decode cX4_digit 0 = .ok (.iload_n 1, 1) := by decide +kernel
theorem dX4_digit_1 : decode cX4_digit 1 = .ok (.bipush 59, 2) := by decide +kernel
theorem dX4_digit_3 : decode cX4_digit 3 = .ok (.if_icmp .ne 61, 3) := by decide +kernel
theorem dX4_digit_6 : decode cX4_digit 6 = .ok (.aload_n 0, 1) := by decide +kernel
theorem dX4_digit_7 : decode cX4_digit 7 = .ok (.getfield 56, 3) := by decide +kernel
theorem dX4_digit_10 : decode cX4_digit 10 = .ok (.bipush 62, 2) := by decide +kernel
theorem dX4_digit_12 : decode cX4_digit 12 = .ok (.if_icmp .eq 52, 3) := by decide +kernel
theorem dX4_digit_15 : decode cX4_digit 15 = .ok (.aload_n 0, 1) := by decide +kernel
theorem dX4_digit_16 : decode cX4_digit 16 = .ok (.getfield 56, 3) := by decide +kernel
theorem dX4_digit_19 : decode cX4_digit 19 = .ok (.bipush 64, 2) := by decide +kernel
theorem dX4_digit_21 : decode cX4_digit 21 = .ok (.if_icmp .eq 43, 3) := by decide +kernel
theorem dX4_digit_24 : decode cX4_digit 24 = .ok (.aload_n 0, 1) := by decide +kernel
theorem dX4_digit_25 : decode cX4_digit 25 = .ok (.getfield 175, 3) := by decide +kernel
theorem dX4_digit_28 : decode cX4_digit 28 = .ok (.ldc2_w 179, 3) := by decide +kernel
theorem dX4_digit_31 : decode cX4_digit 31 = .ok (.lcmp, 1) := by decide +kernel
theorem dX4_digit_32 : decode cX4_digit 32 = .ok (.ifCond .ge 21, 3) := by decide +kernel
theorem dX4_digit_35 : decode cX4_digit 35 = .ok (.aload_n 0, 1) := by decide +kernel
theorem dX4_digit_36 : decode cX4_digit 36 = .ok (.getfield 175, 3) := by decide +kernel
theorem dX4_digit_39 : decode cX4_digit 39 = .ok (.l2i, 1) := by decide +kernel
theorem dX4_digit_40 : decode cX4_digit 40 = .ok (.invokestatic 139, 3) := by decide +kernel
theorem dX4_digit_43 : decode cX4_digit 43 = .ok (.ifCond .eq 10, 3) := by decide +kernel
theorem dX4_digit_46 : decode cX4_digit 46 = .ok (.aload_n 0, 1) := by decide +kernel
theorem dX4_digit_47 : decode cX4_digit 47 = .ok (.invokevirtual 172, 3) := by decide +kernel
theorem dX4_digit_50 : decode cX4_digit 50 = .ok (.goto 13, 3) := by decide +kernel
theorem dX4_digit_53 : decode cX4_digit 53 = .ok (.aload_n 0, 1) := by decide +kernel
theorem dX4_digit_54 : decode cX4_digit 54 = .ok (.bipush 8, 2) := by decide +kernel
theorem dX4_digit_56 : decode cX4_digit 56 = .ok (.aload_n 0, 1) := by decide +kernel
theorem dX4_digit_57 : decode cX4_digit 57 = .ok (.getfield 136, 3) := by decide +kernel
theorem dX4_digit_60 : decode cX4_digit 60 = .ok (.invokevirtual 62, 3) := by decide +kernel
theorem dX4_digit_63 : decode cX4_digit 63 = .ok (.ireturn, 1) := by decide +kernel
theorem dX4_digit_64 : decode cX4_digit 64 = .ok (.iload_n 2, 1) := by decide +kernel
theorem dX4_digit_65 : decode cX4_digit 65 = .ok (.bipush 10, 2) := by decide +kernel
theorem dX4_digit_67 : decode cX4_digit 67 = .ok (.if_icmp .ne 18, 3) := by decide +kernel
theorem dX4_digit_70 : decode cX4_digit 70 = .ok (.iload_n 1, 1) := by decide +kernel
theorem dX4_digit_71 : decode cX4_digit 71 = .ok (.bipush 48, 2) := by decide +kernel
theorem dX4_digit_73 : decode cX4_digit 73 = .ok (.if_icmp .lt 19, 3) := by decide +kernel
theorem dX4_digit_76 : decode cX4_digit 76 = .ok (.iload_n 1, 1) := by decide +kernel
theorem dX4_digit_77 : decode cX4_digit 77 = .ok (.bipush 57, 2) := by decide +kernel
theorem dX4_digit_79 : decode cX4_digit 79 = .ok (.if_icmp .le 18, 3) := by decide +kernel
theorem dX4_digit_82 : decode cX4_digit 82 = .ok (.goto 10, 3) := by decide +kernel
theorem dX4_digit_85 : decode cX4_digit 85 = .ok (.iload_n 1, 1) := by decide +kernel
theorem dX4_digit_86 : decode cX4_digit 86 = .ok (.invokestatic 181, 3) := by decide +kernel
theorem dX4_digit_89 : decode cX4_digit 89 = .ok (.ifCond .ne 8, 3) := by decide +kernel
theorem dX4_digit_92 : decode cX4_digit 92 = .ok (.aload_n 0, 1) := by decide +kernel
theorem dX4_digit_93 : decode cX4_digit 93 = .ok (.invokevirtual 92, 3) := by decide +kernel
theorem dX4_digit_96 : decode cX4_digit 96 = .ok (.ireturn, 1) := by decide +kernel
theorem dX4_digit_97 : decode cX4_digit 97 = .ok (.iload_n 1, 1) := by decide +kernel
theorem dX4_digit_98 : decode cX4_digit 98 = .ok (.bipush 57, 2) := by decide +kernel
theorem dX4_digit_100 : decode cX4_digit 100 = .ok (.if_icmp .gt 10, 3) := by decide +kernel
theorem dX4_digit_103 : decode cX4_digit 103 = .ok (.iload_n 1, 1) := by decide +kernel
theorem dX4_digit_104 : decode cX4_digit 104 = .ok (.bipush 48, 2) := by decide +kernel
theorem dX4_digit_106 : decode cX4_digit 106 = .ok (.isub, 1) := by decide +kernel
theorem dX4_digit_107 : decode cX4_digit 107 = .ok (.goto 13, 3) := by decide +kernel
theorem dX4_digit_110 : decode cX4_digit 110 = .ok (.iload_n 1, 1) := by decide +kernel
theorem dX4_digit_111 : decode cX4_digit 111 = .ok (.bipush 32, 2) := by decide +kernel
theorem dX4_digit_113 : decode cX4_digit 113 = .ok (.ior, 1) := by decide +kernel
theorem dX4_digit_114 : decode cX4_digit 114 = .ok (.bipush 97, 2) := by decide +kernel
theorem dX4_digit_116 : decode cX4_digit 116 = .ok (.isub, 1) := by decide +kernel
theorem dX4_digit_117 : decode cX4_digit 117 = .ok (.bipush 10, 2) := by decide +kernel
theorem dX4_digit_119 : decode cX4_digit 119 = .ok (.iadd, 1) := by decide +kernel
theorem dX4_digit_120 : decode cX4_digit 120 = .ok (.istore_n 3, 1) := by decide +kernel
theorem dX4_digit_121 : decode cX4_digit 121 = .ok (.aload_n 0, 1) := by decide +kernel
theorem dX4_digit_122 : decode cX4_digit 122 = .ok (.aload_n 0, 1) := by decide +kernel
theorem dX4_digit_123 : decode cX4_digit 123 = .ok (.getfield 175, 3) := by decide +kernel
theorem dX4_digit_126 : decode cX4_digit 126 = .ok (.iload_n 2, 1) := by decide +kernel
theorem dX4_digit_127 : decode cX4_digit 127 = .ok (.i2l, 1) := by decide +kernel
theorem dX4_digit_128 : decode cX4_digit 128 = .ok (.lmul, 1) := by decide +kernel
theorem dX4_digit_129 : decode cX4_digit 129 = .ok (.iload_n 3, 1) := by decide +kernel
theorem dX4_digit_130 : decode cX4_digit 130 = .ok (.i2l, 1) := by decide +kernel
theorem dX4_digit_131 : decode cX4_digit 131 = .ok (.ladd, 1) := by decide +kernel
theorem dX4_digit_132 : decode cX4_digit 132 = .ok (.putfield 175, 3) := by decide +kernel
theorem dX4_digit_135 : decode cX4_digit 135 = .ok (.aload_n 0, 1) := by decide +kernel
theorem dX4_digit_136 : decode cX4_digit 136 = .ok (.aload_n 0, 1) := by decide +kernel
theorem dX4_digit_137 : decode cX4_digit 137 = .ok (.getfield 175, 3) := by decide +kernel
theorem dX4_digit_140 : decode cX4_digit 140 = .ok (.ldc2_w 184, 3) := by decide +kernel
theorem dX4_digit_143 : decode cX4_digit 143 = .ok (.lcmp, 1) := by decide +kernel
theorem dX4_digit_144 : decode cX4_digit 144 = .ok (.ifCond .le 9, 3) := by decide +kernel
theorem dX4_digit_147 : decode cX4_digit 147 = .ok (.ldc2_w 184, 3) := by decide +kernel
theorem dX4_digit_150 : decode cX4_digit 150 = .ok (.goto 7, 3) := by decide +kernel
theorem dX4_digit_153 : decode cX4_digit 153 = .ok (.aload_n 0, 1) := by decide +kernel
theorem dX4_digit_154 : decode cX4_digit 154 = .ok (.getfield 175, 3) := by decide +kernel
theorem dX4_digit_157 : decode cX4_digit 157 = .ok (.putfield 175, 3) := by decide +kernel
theorem dX4_digit_160 : decode cX4_digit 160 = .ok (.aload_n 0, 1) := by decide +kernel
theorem dX4_digit_161 : decode cX4_digit 161 = .ok (.iload_n 2, 1) := by decide +kernel
theorem dX4_digit_162 : decode cX4_digit 162 = .ok (.bipush 10, 2) := by decide +kernel
theorem dX4_digit_164 : decode cX4_digit 164 = .ok (.if_icmp .ne 8, 3) := by decide +kernel
theorem dX4_digit_167 : decode cX4_digit 167 = .ok (.bipush 63, 2) := by decide +kernel
theorem dX4_digit_169 : decode cX4_digit 169 = .ok (.goto 5, 3) := by decide +kernel
theorem dX4_digit_172 : decode cX4_digit 172 = .ok (.bipush 65, 2) := by decide +kernel
theorem dX4_digit_174 : decode cX4_digit 174 = .ok (.invokevirtual 82, 3) := by decide +kernel
theorem dX4_digit_177 : decode cX4_digit 177 = .ok (.ireturn, 1) := by decide +kernel
theorem dX4_empty_0 : decode cX4_empty 0 = .ok (.aload_n 0, 1) := by decide +kernel
theorem dX4_empty_1 : decode cX4_empty 1 = .ok (.getfield 72, 3) := by decide +kernel
theorem dX4_empty_4 : decode cX4_empty 4 = .ok (.iconst 1, 1) := by decide +kernel
theorem dX4_empty_5 : decode cX4_empty 5 = .ok (.iadd, 1) := by decide +kernel
theorem dX4_empty_6 : decode cX4_empty 6 = .ok (.istore_n 1, 1) := by decide +kernel
theorem dX4_empty_7 : decode cX4_empty 7 = .ok (.aload_n 0, 1) := by decide +kernel
theorem dX4_empty_8 : decode cX4_empty 8 = .ok (.aload_n 0, 1) := by decide +kernel
theorem dX4_empty_9 : decode cX4_empty 9 = .ok (.getfield 72, 3) := by decide +kernel
theorem dX4_empty_12 : decode cX4_empty 12 = .ok (.ifCond .le 7, 3) := by decide +kernel
theorem dX4_empty_15 : decode cX4_empty 15 = .ok (.iconst 1, 1) := by decide +kernel
theorem dX4_empty_16 : decode cX4_empty 16 = .ok (.goto 4, 3) := by decide +kernel
theorem dX4_empty_19 : decode cX4_empty 19 = .ok (.iconst 2, 1) := by decide +kernel
theorem dX4_empty_20 : decode cX4_empty 20 = .ok (.putfield 79, 3) := by decide +kernel
theorem dX4_empty_23 : decode cX4_empty 23 = .ok (.aload_n 0, 1) := by decide +kernel
theorem dX4_empty_24 : decode cX4_empty 24 = .ok (.iconst 2, 1) := by decide +kernel
theorem dX4_empty_25 : decode cX4_empty 25 = .ok (.invokevirtual 105, 3) := by decide +kernel
theorem dX4_empty_28 : decode cX4_empty 28 = .ok (.ifCond .ge 5, 3) := by decide +kernel
theorem dX4_empty_31 : decode cX4_empty 31 = .ok (.iconst (-1), 1) := by decide +kernel
theorem dX4_empty_32 : decode cX4_empty 32 = .ok (.ireturn, 1) := by decide +kernel
theorem dX4_empty_33 : decode cX4_empty 33 = .ok (.aload_n 0, 1) := by decide +kernel
theorem dX4_empty_34 : decode cX4_empty 34 = .ok (.iload_n 1, 1) := by decide +kernel
theorem dX4_empty_35 : decode cX4_empty 35 = .ok (.aload_n 0, 1) := by decide +kernel
theorem dX4_empty_36 : decode cX4_empty 36 = .ok (.getfield 102, 3) := by decide +kernel
theorem dX4_empty_39 : decode cX4_empty 39 = .ok (.if_icmp .le 7, 3) := by decide +kernel
theorem dX4_empty_42 : decode cX4_empty 42 = .ok (.iload_n 1, 1) := by decide +kernel
theorem dX4_empty_43 : decode cX4_empty 43 = .ok (.goto 7, 3) := by decide +kernel
theorem dX4_empty_46 : decode cX4_empty 46 = .ok (.aload_n 0, 1) := by decide +kernel
theorem dX4_empty_47 : decode cX4_empty 47 = .ok (.getfield 102, 3) := by decide +kernel
theorem dX4_empty_50 : decode cX4_empty 50 = .ok (.putfield 102, 3) := by decide +kernel
theorem dX4_empty_53 : decode cX4_empty 53 = .ok (.iconst 0, 1) := by decide +kernel
theorem dX4_empty_54 : decode cX4_empty 54 = .ok (.ireturn, 1) := by decide +kernel
theorem dX4_end_0 : decode cX4_end 0 = .ok (.iload_n 1, 1) := by decide +kernel
theorem dX4_end_1 : decode cX4_end 1 = .ok (.invokestatic 89, 3) := by decide +kernel
theorem dX4_end_4 : decode cX4_end 4 = .ok (.ifCond .eq 10, 3) := by decide +kernel
theorem dX4_end_7 : decode cX4_end 7 = .ok (.aload_n 0, 1) := by decide +kernel
theorem dX4_end_8 : decode cX4_end 8 = .ok (.bipush 22, 2) := by decide +kernel
theorem dX4_end_10 : decode cX4_end 10 = .ok (.invokevirtual 82, 3) := by decide +kernel
theorem dX4_end_13 : decode cX4_end 13 = .ok (.ireturn, 1) := by decide +kernel
theorem dX4_end_14 : decode cX4_end 14 = .ok (.iload_n 1, 1) := by decide +kernel
theorem dX4_end_15 : decode cX4_end 15 = .ok (.bipush 62, 2) := by decide +kernel
theorem dX4_end_17 : decode cX4_end 17 = .ok (.if_icmp .eq 8, 3) := by decide +kernel
theorem dX4_end_20 : decode cX4_end 20 = .ok (.aload_n 0, 1) := by decide +kernel
theorem dX4_end_21 : decode cX4_end 21 = .ok (.invokevirtual 92, 3) := by decide +kernel
theorem dX4_end_24 : decode cX4_end 24 = .ok (.ireturn, 1) := by decide +kernel
theorem dX4_end_25 : decode cX4_end 25 = .ok (.aload_n 0, 1) := by decide +kernel
theorem dX4_end_26 : decode cX4_end 26 = .ok (.iconst 1, 1) := by decide +kernel
theorem dX4_end_27 : decode cX4_end 27 = .ok (.aload_n 0, 1) := by decide +kernel
theorem dX4_end_28 : decode cX4_end 28 = .ok (.getfield 69, 3) := by decide +kernel
theorem dX4_end_31 : decode cX4_end 31 = .ok (.aload_n 0, 1) := by decide +kernel
theorem dX4_end_32 : decode cX4_end 32 = .ok (.getfield 59, 3) := by decide +kernel
theorem dX4_end_35 : decode cX4_end 35 = .ok (.iconst 1, 1) := by decide +kernel
theorem dX4_end_36 : decode cX4_end 36 = .ok (.iadd, 1) := by decide +kernel
theorem dX4_end_37 : decode cX4_end 37 = .ok (.aload_n 0, 1) := by decide +kernel
theorem dX4_end_38 : decode cX4_end 38 = .ok (.getfield 72, 3) := by decide +kernel
theorem dX4_end_41 : decode cX4_end 41 = .ok (.invokevirtual 75, 3) := by decide +kernel
theorem dX4_end_44 : decode cX4_end 44 = .ok (.ifCond .ge 5, 3) := by decide +kernel
theorem dX4_end_47 : decode cX4_end 47 = .ok (.iconst (-1), 1) := by decide +kernel
theorem dX4_end_48 : decode cX4_end 48 = .ok (.ireturn, 1) := by decide +kernel
theorem dX4_end_49 : decode cX4_end 49 = .ok (.aload_n 0, 1) := by decide +kernel
theorem dX4_end_50 : decode cX4_end 50 = .ok (.aload_n 0, 1) := by decide +kernel
theorem dX4_end_51 : decode cX4_end 51 = .ok (.getfield 72, 3) := by decide +kernel
theorem dX4_end_54 : decode cX4_end 54 = .ok (.iconst 1, 1) := by decide +kernel
theorem dX4_end_55 : decode cX4_end 55 = .ok (.isub, 1) := by decide +kernel
theorem dX4_end_56 : decode cX4_end 56 = .ok (.putfield 72, 3) := by decide +kernel
theorem dX4_end_59 : decode cX4_end 59 = .ok (.aload_n 0, 1) := by decide +kernel
theorem dX4_end_60 : decode cX4_end 60 = .ok (.aload_n 0, 1) := by decide +kernel
theorem dX4_end_61 : decode cX4_end 61 = .ok (.getfield 72, 3) := by decide +kernel
theorem dX4_end_64 : decode cX4_end 64 = .ok (.ifCond .le 7, 3) := by decide +kernel
theorem dX4_end_67 : decode cX4_end 67 = .ok (.iconst 1, 1) := by decide +kernel
theorem dX4_end_68 : decode cX4_end 68 = .ok (.goto 4, 3) := by decide +kernel
theorem dX4_end_71 : decode cX4_end 71 = .ok (.iconst 2, 1) := by decide +kernel
theorem dX4_end_72 : decode cX4_end 72 = .ok (.putfield 79, 3) := by decide +kernel
theorem dX4_end_75 : decode cX4_end 75 = .ok (.aload_n 0, 1) := by decide +kernel
theorem dX4_end_76 : decode cX4_end 76 = .ok (.aload_n 0, 1) := by decide +kernel
theorem dX4_end_77 : decode cX4_end 77 = .ok (.getfield 72, 3) := by decide +kernel
theorem dX4_end_80 : decode cX4_end 80 = .ok (.ifCond .le 8, 3) := by decide +kernel
theorem dX4_end_83 : decode cX4_end 83 = .ok (.bipush 50, 2) := by decide +kernel
theorem dX4_end_85 : decode cX4_end 85 = .ok (.goto 4, 3) := by decide +kernel
theorem dX4_end_88 : decode cX4_end 88 = .ok (.iconst 0, 1) := by decide +kernel
theorem dX4_end_89 : decode cX4_end 89 = .ok (.invokevirtual 82, 3) := by decide +kernel
theorem dX4_end_92 : decode cX4_end 92 = .ok (.ireturn, 1) := by decide +kernel
theorem dX4_endName_0 : decode cX4_endName 0 = .ok (.iload_n 1, 1) := by decide +kernel
theorem dX4_endName_1 : decode cX4_endName 1 = .ok (.invokestatic 108, 3) := by decide +kernel
theorem dX4_endName_4 : decode cX4_endName 4 = .ok (.ifCond .eq 5, 3) := by decide +kernel
theorem dX4_endName_7 : decode cX4_endName 7 = .ok (.iconst 0, 1) := by decide +kernel
theorem dX4_endName_8 : decode cX4_endName 8 = .ok (.ireturn, 1) := by decide +kernel
theorem dX4_endName_9 : decode cX4_endName 9 = .ok (.aload_n 0, 1) := by decide +kernel
theorem dX4_endName_10 : decode cX4_endName 10 = .ok (.aload_n 0, 1) := by decide +kernel
theorem dX4_endName_11 : decode cX4_endName 11 = .ok (.getfield 86, 3) := by decide +kernel
theorem dX4_endName_14 : decode cX4_endName 14 = .ok (.aload_n 0, 1) := by decide +kernel
theorem dX4_endName_15 : decode cX4_endName 15 = .ok (.getfield 59, 3) := by decide +kernel
theorem dX4_endName_18 : decode cX4_endName 18 = .ok (.aload_n 0, 1) := by decide +kernel
theorem dX4_endName_19 : decode cX4_endName 19 = .ok (.getfield 86, 3) := by decide +kernel
theorem dX4_endName_22 : decode cX4_endName 22 = .ok (.isub, 1) := by decide +kernel
theorem dX4_endName_23 : decode cX4_endName 23 = .ok (.aload_n 0, 1) := by decide +kernel
theorem dX4_endName_24 : decode cX4_endName 24 = .ok (.getfield 28, 3) := by decide +kernel
theorem dX4_endName_27 : decode cX4_endName 27 = .ok (.aload_n 0, 1) := by decide +kernel
theorem dX4_endName_28 : decode cX4_endName 28 = .ok (.getfield 72, 3) := by decide +kernel
theorem dX4_endName_31 : decode cX4_endName 31 = .ok (.iconst 1, 1) := by decide +kernel
theorem dX4_endName_32 : decode cX4_endName 32 = .ok (.isub, 1) := by decide +kernel
theorem dX4_endName_33 : decode cX4_endName 33 = .ok (.iaload, 1) := by decide +kernel
theorem dX4_endName_34 : decode cX4_endName 34 = .ok (.aload_n 0, 1) := by decide +kernel
theorem dX4_endName_35 : decode cX4_endName 35 = .ok (.getfield 31, 3) := by decide +kernel
theorem dX4_endName_38 : decode cX4_endName 38 = .ok (.aload_n 0, 1) := by decide +kernel
theorem dX4_endName_39 : decode cX4_endName 39 = .ok (.getfield 72, 3) := by decide +kernel
theorem dX4_endName_42 : decode cX4_endName 42 = .ok (.iconst 1, 1) := by decide +kernel
theorem dX4_endName_43 : decode cX4_endName 43 = .ok (.isub, 1) := by decide +kernel
theorem dX4_endName_44 : decode cX4_endName 44 = .ok (.iaload, 1) := by decide +kernel
theorem dX4_endName_45 : decode cX4_endName 45 = .ok (.invokevirtual 111, 3) := by decide +kernel
theorem dX4_endName_48 : decode cX4_endName 48 = .ok (.ifCond .ne 13, 3) := by decide +kernel
theorem dX4_endName_51 : decode cX4_endName 51 = .ok (.aload_n 0, 1) := by decide +kernel
theorem dX4_endName_52 : decode cX4_endName 52 = .ok (.iconst 3, 1) := by decide +kernel
theorem dX4_endName_53 : decode cX4_endName 53 = .ok (.aload_n 0, 1) := by decide +kernel
theorem dX4_endName_54 : decode cX4_endName 54 = .ok (.getfield 86, 3) := by decide +kernel
theorem dX4_endName_57 : decode cX4_endName 57 = .ok (.invokevirtual 62, 3) := by decide +kernel
theorem dX4_endName_60 : decode cX4_endName 60 = .ok (.ireturn, 1) := by decide +kernel
theorem dX4_endName_61 : decode cX4_endName 61 = .ok (.aload_n 0, 1) := by decide +kernel
theorem dX4_endName_62 : decode cX4_endName 62 = .ok (.iload_n 1, 1) := by decide +kernel
theorem dX4_endName_63 : decode cX4_endName 63 = .ok (.invokevirtual 115, 3) := by decide +kernel
theorem dX4_endName_66 : decode cX4_endName 66 = .ok (.ireturn, 1) := by decide +kernel
theorem dX4_equal_0 : decode cX4_equal 0 = .ok (.iload_n 1, 1) := by decide +kernel
theorem dX4_equal_1 : decode cX4_equal 1 = .ok (.invokestatic 89, 3) := by decide +kernel
theorem dX4_equal_4 : decode cX4_equal 4 = .ok (.ifCond .eq 12, 3) := by decide +kernel
theorem dX4_equal_7 : decode cX4_equal 7 = .ok (.aload_n 0, 1) := by decide +kernel
theorem dX4_equal_8 : decode cX4_equal 8 = .ok (.bipush 34, 2) := by decide +kernel
theorem dX4_equal_10 : decode cX4_equal 10 = .ok (.invokevirtual 82, 3) := by decide +kernel
theorem dX4_equal_13 : decode cX4_equal 13 = .ok (.goto 22, 3) := by decide +kernel
theorem dX4_equal_16 : decode cX4_equal 16 = .ok (.iload_n 1, 1) := by decide +kernel
theorem dX4_equal_17 : decode cX4_equal 17 = .ok (.bipush 61, 2) := by decide +kernel
theorem dX4_equal_19 : decode cX4_equal 19 = .ok (.if_icmp .ne 12, 3) := by decide +kernel
theorem dX4_equal_22 : decode cX4_equal 22 = .ok (.aload_n 0, 1) := by decide +kernel
theorem dX4_equal_23 : decode cX4_equal 23 = .ok (.bipush 35, 2) := by decide +kernel
theorem dX4_equal_25 : decode cX4_equal 25 = .ok (.invokevirtual 82, 3) := by decide +kernel
theorem dX4_equal_28 : decode cX4_equal 28 = .ok (.goto 7, 3) := by decide +kernel
theorem dX4_equal_31 : decode cX4_equal 31 = .ok (.aload_n 0, 1) := by decide +kernel
theorem dX4_equal_32 : decode cX4_equal 32 = .ok (.invokevirtual 92, 3) := by decide +kernel
theorem dX4_equal_35 : decode cX4_equal 35 = .ok (.ireturn, 1) := by decide +kernel
theorem dX4_fail_0 : decode cX4_fail 0 = .ok (.aload_n 0, 1) := by decide +kernel
theorem dX4_fail_1 : decode cX4_fail 1 = .ok (.iload_n 1, 1) := by decide +kernel
theorem dX4_fail_2 : decode cX4_fail 2 = .ok (.putfield 53, 3) := by decide +kernel
theorem dX4_fail_5 : decode cX4_fail 5 = .ok (.aload_n 0, 1) := by decide +kernel
theorem dX4_fail_6 : decode cX4_fail 6 = .ok (.iload_n 2, 1) := by decide +kernel
theorem dX4_fail_7 : decode cX4_fail 7 = .ok (.putfield 40, 3) := by decide +kernel
theorem dX4_fail_10 : decode cX4_fail 10 = .ok (.iconst (-1), 1) := by decide +kernel
theorem dX4_fail_11 : decode cX4_fail 11 = .ok (.ireturn, 1) := by decide +kernel
theorem dX4_go_0 : decode cX4_go 0 = .ok (.aload_n 0, 1) := by decide +kernel
theorem dX4_go_1 : decode cX4_go 1 = .ok (.iload_n 1, 1) := by decide +kernel
theorem dX4_go_2 : decode cX4_go 2 = .ok (.putfield 56, 3) := by decide +kernel
theorem dX4_go_5 : decode cX4_go 5 = .ok (.iconst 0, 1) := by decide +kernel
theorem dX4_go_6 : decode cX4_go 6 = .ok (.ireturn, 1) := by decide +kernel
theorem dX4_inTag_0 : decode cX4_inTag 0 = .ok (.iload_n 1, 1) := by decide +kernel
theorem dX4_inTag_1 : decode cX4_inTag 1 = .ok (.invokestatic 49, 3) := by decide +kernel
theorem dX4_inTag_4 : decode cX4_inTag 4 = .ok (.ifCond .ne 9, 3) := by decide +kernel
theorem dX4_inTag_7 : decode cX4_inTag 7 = .ok (.aload_n 0, 1) := by decide +kernel
theorem dX4_inTag_8 : decode cX4_inTag 8 = .ok (.iload_n 1, 1) := by decide +kernel
theorem dX4_inTag_9 : decode cX4_inTag 9 = .ok (.invokevirtual 124, 3) := by decide +kernel
theorem dX4_inTag_12 : decode cX4_inTag 12 = .ok (.ireturn, 1) := by decide +kernel
theorem dX4_inTag_13 : decode cX4_inTag 13 = .ok (.aload_n 0, 1) := by decide +kernel
theorem dX4_inTag_14 : decode cX4_inTag 14 = .ok (.aload_n 0, 1) := by decide +kernel
theorem dX4_inTag_15 : decode cX4_inTag 15 = .ok (.getfield 59, 3) := by decide +kernel
theorem dX4_inTag_18 : decode cX4_inTag 18 = .ok (.putfield 86, 3) := by decide +kernel
theorem dX4_inTag_21 : decode cX4_inTag 21 = .ok (.aload_n 0, 1) := by decide +kernel
theorem dX4_inTag_22 : decode cX4_inTag 22 = .ok (.bipush 33, 2) := by decide +kernel
theorem dX4_inTag_24 : decode cX4_inTag 24 = .ok (.invokevirtual 82, 3) := by decide +kernel
theorem dX4_inTag_27 : decode cX4_inTag 27 = .ok (.ireturn, 1) := by decide +kernel
theorem dX4_init_0 : decode cX4_init 0 = .ok (.aload_n 0, 1) := by decide +kernel
theorem dX4_init_1 : decode cX4_init 1 = .ok (.invokespecial 1, 3) := by decide +kernel
theorem dX4_init_4 : decode cX4_init 4 = .ok (.aload_n 0, 1) := by decide +kernel
theorem dX4_init_5 : decode cX4_init 5 = .ok (.sipush 500, 3) := by decide +kernel
theorem dX4_init_8 : decode cX4_init 8 = .ok (.newarray .int, 2) := by decide +kernel
theorem dX4_init_10 : decode cX4_init 10 = .ok (.putfield 7, 3) := by decide +kernel
theorem dX4_init_13 : decode cX4_init 13 = .ok (.aload_n 0, 1) := by decide +kernel
theorem dX4_init_14 : decode cX4_init 14 = .ok (.sipush 500, 3) := by decide +kernel
theorem dX4_init_17 : decode cX4_init 17 = .ok (.newarray .int, 2) := by decide +kernel
theorem dX4_init_19 : decode cX4_init 19 = .ok (.putfield 13, 3) := by decide +kernel
theorem dX4_init_22 : decode cX4_init 22 = .ok (.aload_n 0, 1) := by decide +kernel
theorem dX4_init_23 : decode cX4_init 23 = .ok (.sipush 150, 3) := by decide +kernel
theorem dX4_init_26 : decode cX4_init 26 = .ok (.newarray .int, 2) := by decide +kernel
theorem dX4_init_28 : decode cX4_init 28 = .ok (.putfield 16, 3) := by decide +kernel
theorem dX4_init_31 : decode cX4_init 31 = .ok (.aload_n 0, 1) := by decide +kernel
theorem dX4_init_32 : decode cX4_init 32 = .ok (.sipush 150, 3) := by decide +kernel
theorem dX4_init_35 : decode cX4_init 35 = .ok (.newarray .int, 2) := by decide +kernel
theorem dX4_init_37 : decode cX4_init 37 = .ok (.putfield 19, 3) := by decide +kernel
theorem dX4_init_40 : decode cX4_init 40 = .ok (.aload_n 0, 1) := by decide +kernel
theorem dX4_init_41 : decode cX4_init 41 = .ok (.sipush 150, 3) := by decide +kernel
theorem dX4_init_44 : decode cX4_init 44 = .ok (.newarray .int, 2) := by decide +kernel
theorem dX4_init_46 : decode cX4_init 46 = .ok (.putfield 22, 3) := by decide +kernel
theorem dX4_init_49 : decode cX4_init 49 = .ok (.aload_n 0, 1) := by decide +kernel
theorem dX4_init_50 : decode cX4_init 50 = .ok (.sipush 150, 3) := by decide +kernel
theorem dX4_init_53 : decode cX4_init 53 = .ok (.newarray .int, 2) := by decide +kernel
theorem dX4_init_55 : decode cX4_init 55 = .ok (.putfield 25, 3) := by decide +kernel
theorem dX4_init_58 : decode cX4_init 58 = .ok (.aload_n 0, 1) := by decide +kernel
theorem dX4_init_59 : decode cX4_init 59 = .ok (.bipush 20, 2) := by decide +kernel
theorem dX4_init_61 : decode cX4_init 61 = .ok (.newarray .int, 2) := by decide +kernel
theorem dX4_init_63 : decode cX4_init 63 = .ok (.putfield 28, 3) := by decide +kernel
theorem dX4_init_66 : decode cX4_init 66 = .ok (.aload_n 0, 1) := by decide +kernel
theorem dX4_init_67 : decode cX4_init 67 = .ok (.bipush 20, 2) := by decide +kernel
theorem dX4_init_69 : decode cX4_init 69 = .ok (.newarray .int, 2) := by decide +kernel
theorem dX4_init_71 : decode cX4_init 71 = .ok (.putfield 31, 3) := by decide +kernel
theorem dX4_init_74 : decode cX4_init 74 = .ok (.aload_n 0, 1) := by decide +kernel
theorem dX4_init_75 : decode cX4_init 75 = .ok (.bipush 8, 2) := by decide +kernel
theorem dX4_init_77 : decode cX4_init 77 = .ok (.newarray .int, 2) := by decide +kernel
theorem dX4_init_79 : decode cX4_init 79 = .ok (.putfield 34, 3) := by decide +kernel
theorem dX4_init_82 : decode cX4_init 82 = .ok (.aload_n 0, 1) := by decide +kernel
theorem dX4_init_83 : decode cX4_init 83 = .ok (.bipush 8, 2) := by decide +kernel
theorem dX4_init_85 : decode cX4_init 85 = .ok (.newarray .int, 2) := by decide +kernel
theorem dX4_init_87 : decode cX4_init 87 = .ok (.putfield 37, 3) := by decide +kernel
theorem dX4_init_90 : decode cX4_init 90 = .ok (.aload_n 0, 1) := by decide +kernel
theorem dX4_init_91 : decode cX4_init 91 = .ok (.iconst (-1), 1) := by decide +kernel
theorem dX4_init_92 : decode cX4_init 92 = .ok (.putfield 40, 3) := by decide +kernel
theorem dX4_init_95 : decode cX4_init 95 = .ok (.return_, 1) := by decide +kernel
theorem dX4_is_0 : decode cX4_is 0 = .ok (.lconst 0, 1) := by decide +kernel
theorem dX4_is_1 : decode cX4_is 1 = .ok (.lstore_n 3, 1) := by decide +kernel
theorem dX4_is_2 : decode cX4_is 2 = .ok (.aload_n 0, 1) := by decide +kernel
theorem dX4_is_3 : decode cX4_is 3 = .ok (.getfield 86, 3) := by decide +kernel
theorem dX4_is_6 : decode cX4_is 6 = .ok (.istore 5, 2) := by decide +kernel
theorem dX4_is_8 : decode cX4_is 8 = .ok (.iload 5, 2) := by decide +kernel
theorem dX4_is_10 : decode cX4_is 10 = .ok (.aload_n 0, 1) := by decide +kernel
theorem dX4_is_11 : decode cX4_is 11 = .ok (.getfield 59, 3) := by decide +kernel
theorem dX4_is_14 : decode cX4_is 14 = .ok (.if_icmp .ge 35, 3) := by decide +kernel
theorem dX4_is_17 : decode cX4_is 17 = .ok (.iload 5, 2) := by decide +kernel
theorem dX4_is_19 : decode cX4_is 19 = .ok (.aload_n 0, 1) := by decide +kernel
theorem dX4_is_20 : decode cX4_is 20 = .ok (.getfield 86, 3) := by decide +kernel
theorem dX4_is_23 : decode cX4_is 23 = .ok (.bipush 8, 2) := by decide +kernel
theorem dX4_is_25 : decode cX4_is 25 = .ok (.iadd, 1) := by decide +kernel
theorem dX4_is_26 : decode cX4_is 26 = .ok (.if_icmp .ge 23, 3) := by decide +kernel
theorem dX4_is_29 : decode cX4_is 29 = .ok (.lload_n 3, 1) := by decide +kernel
theorem dX4_is_30 : decode cX4_is 30 = .ok (.bipush 8, 2) := by decide +kernel
theorem dX4_is_32 : decode cX4_is 32 = .ok (.lshl, 1) := by decide +kernel
theorem dX4_is_33 : decode cX4_is 33 = .ok (.aload_n 0, 1) := by decide +kernel
theorem dX4_is_34 : decode cX4_is 34 = .ok (.getfield 13, 3) := by decide +kernel
theorem dX4_is_37 : decode cX4_is 37 = .ok (.iload 5, 2) := by decide +kernel
theorem dX4_is_39 : decode cX4_is 39 = .ok (.iaload, 1) := by decide +kernel
theorem dX4_is_40 : decode cX4_is 40 = .ok (.i2l, 1) := by decide +kernel
theorem dX4_is_41 : decode cX4_is 41 = .ok (.lor, 1) := by decide +kernel
theorem dX4_is_42 : decode cX4_is 42 = .ok (.lstore_n 3, 1) := by decide +kernel
theorem dX4_is_43 : decode cX4_is 43 = .ok (.iinc 5 1, 3) := by decide +kernel
theorem dX4_is_46 : decode cX4_is 46 = .ok (.goto (-38), 3) := by decide +kernel
theorem dX4_is_49 : decode cX4_is 49 = .ok (.aload_n 0, 1) := by decide +kernel
theorem dX4_is_50 : decode cX4_is 50 = .ok (.getfield 59, 3) := by decide +kernel
theorem dX4_is_53 : decode cX4_is 53 = .ok (.aload_n 0, 1) := by decide +kernel
theorem dX4_is_54 : decode cX4_is 54 = .ok (.getfield 86, 3) := by decide +kernel
theorem dX4_is_57 : decode cX4_is 57 = .ok (.isub, 1) := by decide +kernel
theorem dX4_is_58 : decode cX4_is 58 = .ok (.bipush 8, 2) := by decide +kernel
theorem dX4_is_60 : decode cX4_is 60 = .ok (.if_icmp .ge 13, 3) := by decide +kernel
theorem dX4_is_63 : decode cX4_is 63 = .ok (.lload_n 3, 1) := by decide +kernel
theorem dX4_is_64 : decode cX4_is 64 = .ok (.lload_n 1, 1) := by decide +kernel
theorem dX4_is_65 : decode cX4_is 65 = .ok (.lcmp, 1) := by decide +kernel
theorem dX4_is_66 : decode cX4_is 66 = .ok (.ifCond .ne 7, 3) := by decide +kernel
theorem dX4_is_69 : decode cX4_is 69 = .ok (.iconst 1, 1) := by decide +kernel
theorem dX4_is_70 : decode cX4_is 70 = .ok (.goto 4, 3) := by decide +kernel
theorem dX4_is_73 : decode cX4_is 73 = .ok (.iconst 0, 1) := by decide +kernel
theorem dX4_is_74 : decode cX4_is 74 = .ok (.ireturn, 1) := by decide +kernel
theorem dX4_isBarred_0 : decode cX4_isBarred 0 = .ok (.aload_n 0, 1) := by decide +kernel
theorem dX4_isBarred_1 : decode cX4_isBarred 1 = .ok (.getfield 59, 3) := by decide +kernel
theorem dX4_isBarred_4 : decode cX4_isBarred 4 = .ok (.aload_n 0, 1) := by decide +kernel
theorem dX4_isBarred_5 : decode cX4_isBarred 5 = .ok (.getfield 86, 3) := by decide +kernel
theorem dX4_isBarred_8 : decode cX4_isBarred 8 = .ok (.isub, 1) := by decide +kernel
theorem dX4_isBarred_9 : decode cX4_isBarred 9 = .ok (.iconst 3, 1) := by decide +kernel
theorem dX4_isBarred_10 : decode cX4_isBarred 10 = .ok (.if_icmp .ne 62, 3) := by decide +kernel
theorem dX4_isBarred_13 : decode cX4_isBarred 13 = .ok (.aload_n 0, 1) := by decide +kernel
theorem dX4_isBarred_14 : decode cX4_isBarred 14 = .ok (.getfield 13, 3) := by decide +kernel
theorem dX4_isBarred_17 : decode cX4_isBarred 17 = .ok (.aload_n 0, 1) := by decide +kernel
theorem dX4_isBarred_18 : decode cX4_isBarred 18 = .ok (.getfield 86, 3) := by decide +kernel
theorem dX4_isBarred_21 : decode cX4_isBarred 21 = .ok (.iaload, 1) := by decide +kernel
theorem dX4_isBarred_22 : decode cX4_isBarred 22 = .ok (.bipush 32, 2) := by decide +kernel
theorem dX4_isBarred_24 : decode cX4_isBarred 24 = .ok (.ior, 1) := by decide +kernel
theorem dX4_isBarred_25 : decode cX4_isBarred 25 = .ok (.bipush 120, 2) := by decide +kernel
theorem dX4_isBarred_27 : decode cX4_isBarred 27 = .ok (.if_icmp .ne 45, 3) := by decide +kernel
theorem dX4_isBarred_30 : decode cX4_isBarred 30 = .ok (.aload_n 0, 1) := by decide +kernel
theorem dX4_isBarred_31 : decode cX4_isBarred 31 = .ok (.getfield 13, 3) := by decide +kernel
theorem dX4_isBarred_34 : decode cX4_isBarred 34 = .ok (.aload_n 0, 1) := by decide +kernel
theorem dX4_isBarred_35 : decode cX4_isBarred 35 = .ok (.getfield 86, 3) := by decide +kernel
theorem dX4_isBarred_38 : decode cX4_isBarred 38 = .ok (.iconst 1, 1) := by decide +kernel
theorem dX4_isBarred_39 : decode cX4_isBarred 39 = .ok (.iadd, 1) := by decide +kernel
theorem dX4_isBarred_40 : decode cX4_isBarred 40 = .ok (.iaload, 1) := by decide +kernel
theorem dX4_isBarred_41 : decode cX4_isBarred 41 = .ok (.bipush 32, 2) := by decide +kernel
theorem dX4_isBarred_43 : decode cX4_isBarred 43 = .ok (.ior, 1) := by decide +kernel
theorem dX4_isBarred_44 : decode cX4_isBarred 44 = .ok (.bipush 109, 2) := by decide +kernel
theorem dX4_isBarred_46 : decode cX4_isBarred 46 = .ok (.if_icmp .ne 26, 3) := by decide +kernel
theorem dX4_isBarred_49 : decode cX4_isBarred 49 = .ok (.aload_n 0, 1) := by decide +kernel
theorem dX4_isBarred_50 : decode cX4_isBarred 50 = .ok (.getfield 13, 3) := by decide +kernel
theorem dX4_isBarred_53 : decode cX4_isBarred 53 = .ok (.aload_n 0, 1) := by decide +kernel
theorem dX4_isBarred_54 : decode cX4_isBarred 54 = .ok (.getfield 86, 3) := by decide +kernel
theorem dX4_isBarred_57 : decode cX4_isBarred 57 = .ok (.iconst 2, 1) := by decide +kernel
theorem dX4_isBarred_58 : decode cX4_isBarred 58 = .ok (.iadd, 1) := by decide +kernel
theorem dX4_isBarred_59 : decode cX4_isBarred 59 = .ok (.iaload, 1) := by decide +kernel
theorem dX4_isBarred_60 : decode cX4_isBarred 60 = .ok (.bipush 32, 2) := by decide +kernel
theorem dX4_isBarred_62 : decode cX4_isBarred 62 = .ok (.ior, 1) := by decide +kernel
theorem dX4_isBarred_63 : decode cX4_isBarred 63 = .ok (.bipush 108, 2) := by decide +kernel
theorem dX4_isBarred_65 : decode cX4_isBarred 65 = .ok (.if_icmp .ne 7, 3) := by decide +kernel
theorem dX4_isBarred_68 : decode cX4_isBarred 68 = .ok (.iconst 1, 1) := by decide +kernel
theorem dX4_isBarred_69 : decode cX4_isBarred 69 = .ok (.goto 4, 3) := by decide +kernel
theorem dX4_isBarred_72 : decode cX4_isBarred 72 = .ok (.iconst 0, 1) := by decide +kernel
theorem dX4_isBarred_73 : decode cX4_isBarred 73 = .ok (.ireturn, 1) := by decide +kernel
theorem dX4_isBegin_0 : decode cX4_isBegin 0 = .ok (.iload_n 0, 1) := by decide +kernel
theorem dX4_isBegin_1 : decode cX4_isBegin 1 = .ok (.bipush 65, 2) := by decide +kernel
theorem dX4_isBegin_3 : decode cX4_isBegin 3 = .ok (.if_icmp .lt 9, 3) := by decide +kernel
theorem dX4_isBegin_6 : decode cX4_isBegin 6 = .ok (.iload_n 0, 1) := by decide +kernel
theorem dX4_isBegin_7 : decode cX4_isBegin 7 = .ok (.bipush 90, 2) := by decide +kernel
theorem dX4_isBegin_9 : decode cX4_isBegin 9 = .ok (.if_icmp .le 27, 3) := by decide +kernel
theorem dX4_isBegin_12 : decode cX4_isBegin 12 = .ok (.iload_n 0, 1) := by decide +kernel
theorem dX4_isBegin_13 : decode cX4_isBegin 13 = .ok (.bipush 97, 2) := by decide +kernel
theorem dX4_isBegin_15 : decode cX4_isBegin 15 = .ok (.if_icmp .lt 9, 3) := by decide +kernel
theorem dX4_isBegin_18 : decode cX4_isBegin 18 = .ok (.iload_n 0, 1) := by decide +kernel
theorem dX4_isBegin_19 : decode cX4_isBegin 19 = .ok (.bipush 122, 2) := by decide +kernel
theorem dX4_isBegin_21 : decode cX4_isBegin 21 = .ok (.if_icmp .le 15, 3) := by decide +kernel
theorem dX4_isBegin_24 : decode cX4_isBegin 24 = .ok (.iload_n 0, 1) := by decide +kernel
theorem dX4_isBegin_25 : decode cX4_isBegin 25 = .ok (.bipush 95, 2) := by decide +kernel
theorem dX4_isBegin_27 : decode cX4_isBegin 27 = .ok (.if_icmp .eq 9, 3) := by decide +kernel
theorem dX4_isBegin_30 : decode cX4_isBegin 30 = .ok (.iload_n 0, 1) := by decide +kernel
theorem dX4_isBegin_31 : decode cX4_isBegin 31 = .ok (.bipush 58, 2) := by decide +kernel
theorem dX4_isBegin_33 : decode cX4_isBegin 33 = .ok (.if_icmp .ne 7, 3) := by decide +kernel
theorem dX4_isBegin_36 : decode cX4_isBegin 36 = .ok (.iconst 1, 1) := by decide +kernel
theorem dX4_isBegin_37 : decode cX4_isBegin 37 = .ok (.goto 4, 3) := by decide +kernel
theorem dX4_isBegin_40 : decode cX4_isBegin 40 = .ok (.iconst 0, 1) := by decide +kernel
theorem dX4_isBegin_41 : decode cX4_isBegin 41 = .ok (.ireturn, 1) := by decide +kernel
theorem dX4_isBlank_0 : decode cX4_isBlank 0 = .ok (.iload_n 0, 1) := by decide +kernel
theorem dX4_isBlank_1 : decode cX4_isBlank 1 = .ok (.bipush 9, 2) := by decide +kernel
theorem dX4_isBlank_3 : decode cX4_isBlank 3 = .ok (.if_icmp .eq 21, 3) := by decide +kernel
theorem dX4_isBlank_6 : decode cX4_isBlank 6 = .ok (.iload_n 0, 1) := by decide +kernel
theorem dX4_isBlank_7 : decode cX4_isBlank 7 = .ok (.bipush 10, 2) := by decide +kernel
theorem dX4_isBlank_9 : decode cX4_isBlank 9 = .ok (.if_icmp .eq 15, 3) := by decide +kernel
theorem dX4_isBlank_12 : decode cX4_isBlank 12 = .ok (.iload_n 0, 1) := by decide +kernel
theorem dX4_isBlank_13 : decode cX4_isBlank 13 = .ok (.bipush 13, 2) := by decide +kernel
theorem dX4_isBlank_15 : decode cX4_isBlank 15 = .ok (.if_icmp .eq 9, 3) := by decide +kernel
theorem dX4_isBlank_18 : decode cX4_isBlank 18 = .ok (.iload_n 0, 1) := by decide +kernel
theorem dX4_isBlank_19 : decode cX4_isBlank 19 = .ok (.bipush 32, 2) := by decide +kernel
theorem dX4_isBlank_21 : decode cX4_isBlank 21 = .ok (.if_icmp .ne 7, 3) := by decide +kernel
theorem dX4_isBlank_24 : decode cX4_isBlank 24 = .ok (.iconst 1, 1) := by decide +kernel
theorem dX4_isBlank_25 : decode cX4_isBlank 25 = .ok (.goto 4, 3) := by decide +kernel
theorem dX4_isBlank_28 : decode cX4_isBlank 28 = .ok (.iconst 0, 1) := by decide +kernel
theorem dX4_isBlank_29 : decode cX4_isBlank 29 = .ok (.ireturn, 1) := by decide +kernel
theorem dX4_isHex_0 : decode cX4_isHex 0 = .ok (.iload_n 0, 1) := by decide +kernel
theorem dX4_isHex_1 : decode cX4_isHex 1 = .ok (.bipush 48, 2) := by decide +kernel
theorem dX4_isHex_3 : decode cX4_isHex 3 = .ok (.if_icmp .lt 9, 3) := by decide +kernel
theorem dX4_isHex_6 : decode cX4_isHex 6 = .ok (.iload_n 0, 1) := by decide +kernel
theorem dX4_isHex_7 : decode cX4_isHex 7 = .ok (.bipush 57, 2) := by decide +kernel
theorem dX4_isHex_9 : decode cX4_isHex 9 = .ok (.if_icmp .le 27, 3) := by decide +kernel
theorem dX4_isHex_12 : decode cX4_isHex 12 = .ok (.iload_n 0, 1) := by decide +kernel
theorem dX4_isHex_13 : decode cX4_isHex 13 = .ok (.bipush 97, 2) := by decide +kernel
theorem dX4_isHex_15 : decode cX4_isHex 15 = .ok (.if_icmp .lt 9, 3) := by decide +kernel
theorem dX4_isHex_18 : decode cX4_isHex 18 = .ok (.iload_n 0, 1) := by decide +kernel
theorem dX4_isHex_19 : decode cX4_isHex 19 = .ok (.bipush 102, 2) := by decide +kernel
theorem dX4_isHex_21 : decode cX4_isHex 21 = .ok (.if_icmp .le 15, 3) := by decide +kernel
theorem dX4_isHex_24 : decode cX4_isHex 24 = .ok (.iload_n 0, 1) := by decide +kernel
theorem dX4_isHex_25 : decode cX4_isHex 25 = .ok (.bipush 65, 2) := by decide +kernel
theorem dX4_isHex_27 : decode cX4_isHex 27 = .ok (.if_icmp .lt 13, 3) := by decide +kernel
theorem dX4_isHex_30 : decode cX4_isHex 30 = .ok (.iload_n 0, 1) := by decide +kernel
theorem dX4_isHex_31 : decode cX4_isHex 31 = .ok (.bipush 70, 2) := by decide +kernel
theorem dX4_isHex_33 : decode cX4_isHex 33 = .ok (.if_icmp .gt 7, 3) := by decide +kernel
theorem dX4_isHex_36 : decode cX4_isHex 36 = .ok (.iconst 1, 1) := by decide +kernel
theorem dX4_isHex_37 : decode cX4_isHex 37 = .ok (.goto 4, 3) := by decide +kernel
theorem dX4_isHex_40 : decode cX4_isHex 40 = .ok (.iconst 0, 1) := by decide +kernel
theorem dX4_isHex_41 : decode cX4_isHex 41 = .ok (.ireturn, 1) := by decide +kernel
theorem dX4_isPart_0 : decode cX4_isPart 0 = .ok (.iload_n 0, 1) := by decide +kernel
theorem dX4_isPart_1 : decode cX4_isPart 1 = .ok (.invokestatic 49, 3) := by decide +kernel
theorem dX4_isPart_4 : decode cX4_isPart 4 = .ok (.ifCond .ne 27, 3) := by decide +kernel
theorem dX4_isPart_7 : decode cX4_isPart 7 = .ok (.iload_n 0, 1) := by decide +kernel
theorem dX4_isPart_8 : decode cX4_isPart 8 = .ok (.bipush 48, 2) := by decide +kernel
theorem dX4_isPart_10 : decode cX4_isPart 10 = .ok (.if_icmp .lt 9, 3) := by decide +kernel
theorem dX4_isPart_13 : decode cX4_isPart 13 = .ok (.iload_n 0, 1) := by decide +kernel
theorem dX4_isPart_14 : decode cX4_isPart 14 = .ok (.bipush 57, 2) := by decide +kernel
theorem dX4_isPart_16 : decode cX4_isPart 16 = .ok (.if_icmp .le 15, 3) := by decide +kernel
theorem dX4_isPart_19 : decode cX4_isPart 19 = .ok (.iload_n 0, 1) := by decide +kernel
theorem dX4_isPart_20 : decode cX4_isPart 20 = .ok (.bipush 45, 2) := by decide +kernel
theorem dX4_isPart_22 : decode cX4_isPart 22 = .ok (.if_icmp .eq 9, 3) := by decide +kernel
theorem dX4_isPart_25 : decode cX4_isPart 25 = .ok (.iload_n 0, 1) := by decide +kernel
theorem dX4_isPart_26 : decode cX4_isPart 26 = .ok (.bipush 46, 2) := by decide +kernel
theorem dX4_isPart_28 : decode cX4_isPart 28 = .ok (.if_icmp .ne 7, 3) := by decide +kernel
theorem dX4_isPart_31 : decode cX4_isPart 31 = .ok (.iconst 1, 1) := by decide +kernel
theorem dX4_isPart_32 : decode cX4_isPart 32 = .ok (.goto 4, 3) := by decide +kernel
theorem dX4_isPart_35 : decode cX4_isPart 35 = .ok (.iconst 0, 1) := by decide +kernel
theorem dX4_isPart_36 : decode cX4_isPart 36 = .ok (.ireturn, 1) := by decide +kernel
theorem dX4_isSign_0 : decode cX4_isSign 0 = .ok (.iload_n 0, 1) := by decide +kernel
theorem dX4_isSign_1 : decode cX4_isSign 1 = .ok (.bipush 9, 2) := by decide +kernel
theorem dX4_isSign_3 : decode cX4_isSign 3 = .ok (.if_icmp .eq 27, 3) := by decide +kernel
theorem dX4_isSign_6 : decode cX4_isSign 6 = .ok (.iload_n 0, 1) := by decide +kernel
theorem dX4_isSign_7 : decode cX4_isSign 7 = .ok (.bipush 10, 2) := by decide +kernel
theorem dX4_isSign_9 : decode cX4_isSign 9 = .ok (.if_icmp .eq 21, 3) := by decide +kernel
theorem dX4_isSign_12 : decode cX4_isSign 12 = .ok (.iload_n 0, 1) := by decide +kernel
theorem dX4_isSign_13 : decode cX4_isSign 13 = .ok (.bipush 13, 2) := by decide +kernel
theorem dX4_isSign_15 : decode cX4_isSign 15 = .ok (.if_icmp .eq 15, 3) := by decide +kernel
theorem dX4_isSign_18 : decode cX4_isSign 18 = .ok (.iload_n 0, 1) := by decide +kernel
theorem dX4_isSign_19 : decode cX4_isSign 19 = .ok (.bipush 32, 2) := by decide +kernel
theorem dX4_isSign_21 : decode cX4_isSign 21 = .ok (.if_icmp .lt 13, 3) := by decide +kernel
theorem dX4_isSign_24 : decode cX4_isSign 24 = .ok (.iload_n 0, 1) := by decide +kernel
theorem dX4_isSign_25 : decode cX4_isSign 25 = .ok (.bipush 127, 2) := by decide +kernel
theorem dX4_isSign_27 : decode cX4_isSign 27 = .ok (.if_icmp .ge 7, 3) := by decide +kernel
theorem dX4_isSign_30 : decode cX4_isSign 30 = .ok (.iconst 1, 1) := by decide +kernel
theorem dX4_isSign_31 : decode cX4_isSign 31 = .ok (.goto 4, 3) := by decide +kernel
theorem dX4_isSign_34 : decode cX4_isSign 34 = .ok (.iconst 0, 1) := by decide +kernel
theorem dX4_isSign_35 : decode cX4_isSign 35 = .ok (.ireturn, 1) := by decide +kernel
theorem dX4_less_0 : decode cX4_less 0 = .ok (.iload_n 1, 1) := by decide +kernel
theorem dX4_less_1 : decode cX4_less 1 = .ok (.bipush 33, 2) := by decide +kernel
theorem dX4_less_3 : decode cX4_less 3 = .ok (.if_icmp .ne 9, 3) := by decide +kernel
theorem dX4_less_6 : decode cX4_less 6 = .ok (.aload_n 0, 1) := by decide +kernel
theorem dX4_less_7 : decode cX4_less 7 = .ok (.iconst 2, 1) := by decide +kernel
theorem dX4_less_8 : decode cX4_less 8 = .ok (.invokevirtual 82, 3) := by decide +kernel
theorem dX4_less_11 : decode cX4_less 11 = .ok (.ireturn, 1) := by decide +kernel
theorem dX4_less_12 : decode cX4_less 12 = .ok (.iload_n 1, 1) := by decide +kernel
theorem dX4_less_13 : decode cX4_less 13 = .ok (.bipush 63, 2) := by decide +kernel
theorem dX4_less_15 : decode cX4_less 15 = .ok (.if_icmp .ne 10, 3) := by decide +kernel
theorem dX4_less_18 : decode cX4_less 18 = .ok (.aload_n 0, 1) := by decide +kernel
theorem dX4_less_19 : decode cX4_less 19 = .ok (.bipush 10, 2) := by decide +kernel
theorem dX4_less_21 : decode cX4_less 21 = .ok (.invokevirtual 82, 3) := by decide +kernel
theorem dX4_less_24 : decode cX4_less 24 = .ok (.ireturn, 1) := by decide +kernel
theorem dX4_less_25 : decode cX4_less 25 = .ok (.iload_n 1, 1) := by decide +kernel
theorem dX4_less_26 : decode cX4_less 26 = .ok (.bipush 47, 2) := by decide +kernel
theorem dX4_less_28 : decode cX4_less 28 = .ok (.if_icmp .ne 18, 3) := by decide +kernel
theorem dX4_less_31 : decode cX4_less 31 = .ok (.aload_n 0, 1) := by decide +kernel
theorem dX4_less_32 : decode cX4_less 32 = .ok (.getfield 79, 3) := by decide +kernel
theorem dX4_less_35 : decode cX4_less 35 = .ok (.iconst 1, 1) := by decide +kernel
theorem dX4_less_36 : decode cX4_less 36 = .ok (.if_icmp .ne 10, 3) := by decide +kernel
theorem dX4_less_39 : decode cX4_less 39 = .ok (.aload_n 0, 1) := by decide +kernel
theorem dX4_less_40 : decode cX4_less 40 = .ok (.bipush 20, 2) := by decide +kernel
theorem dX4_less_42 : decode cX4_less 42 = .ok (.invokevirtual 82, 3) := by decide +kernel
theorem dX4_less_45 : decode cX4_less 45 = .ok (.ireturn, 1) := by decide +kernel
theorem dX4_less_46 : decode cX4_less 46 = .ok (.iload_n 1, 1) := by decide +kernel
theorem dX4_less_47 : decode cX4_less 47 = .ok (.invokestatic 49, 3) := by decide +kernel
theorem dX4_less_50 : decode cX4_less 50 = .ok (.ifCond .eq 11, 3) := by decide +kernel
theorem dX4_less_53 : decode cX4_less 53 = .ok (.aload_n 0, 1) := by decide +kernel
theorem dX4_less_54 : decode cX4_less 54 = .ok (.getfield 79, 3) := by decide +kernel
theorem dX4_less_57 : decode cX4_less 57 = .ok (.iconst 2, 1) := by decide +kernel
theorem dX4_less_58 : decode cX4_less 58 = .ok (.if_icmp .ne 8, 3) := by decide +kernel
theorem dX4_less_61 : decode cX4_less 61 = .ok (.aload_n 0, 1) := by decide +kernel
theorem dX4_less_62 : decode cX4_less 62 = .ok (.invokevirtual 92, 3) := by decide +kernel
theorem dX4_less_65 : decode cX4_less 65 = .ok (.ireturn, 1) := by decide +kernel
theorem dX4_less_66 : decode cX4_less 66 = .ok (.aload_n 0, 1) := by decide +kernel
theorem dX4_less_67 : decode cX4_less 67 = .ok (.aload_n 0, 1) := by decide +kernel
theorem dX4_less_68 : decode cX4_less 68 = .ok (.getfield 59, 3) := by decide +kernel
theorem dX4_less_71 : decode cX4_less 71 = .ok (.putfield 86, 3) := by decide +kernel
theorem dX4_less_74 : decode cX4_less 74 = .ok (.aload_n 0, 1) := by decide +kernel
theorem dX4_less_75 : decode cX4_less 75 = .ok (.bipush 30, 2) := by decide +kernel
theorem dX4_less_77 : decode cX4_less 77 = .ok (.invokevirtual 82, 3) := by decide +kernel
theorem dX4_less_80 : decode cX4_less 80 = .ok (.ireturn, 1) := by decide +kernel
theorem dX4_nameFrom_0 : decode cX4_nameFrom 0 = .ok (.iload_n 1, 1) := by decide +kernel
theorem dX4_nameFrom_1 : decode cX4_nameFrom 1 = .ok (.invokestatic 49, 3) := by decide +kernel
theorem dX4_nameFrom_4 : decode cX4_nameFrom 4 = .ok (.ifCond .ne 8, 3) := by decide +kernel
theorem dX4_nameFrom_7 : decode cX4_nameFrom 7 = .ok (.aload_n 0, 1) := by decide +kernel
theorem dX4_nameFrom_8 : decode cX4_nameFrom 8 = .ok (.invokevirtual 92, 3) := by decide +kernel
theorem dX4_nameFrom_11 : decode cX4_nameFrom 11 = .ok (.ireturn, 1) := by decide +kernel
theorem dX4_nameFrom_12 : decode cX4_nameFrom 12 = .ok (.aload_n 0, 1) := by decide +kernel
theorem dX4_nameFrom_13 : decode cX4_nameFrom 13 = .ok (.aload_n 0, 1) := by decide +kernel
theorem dX4_nameFrom_14 : decode cX4_nameFrom 14 = .ok (.getfield 59, 3) := by decide +kernel
theorem dX4_nameFrom_17 : decode cX4_nameFrom 17 = .ok (.putfield 86, 3) := by decide +kernel
theorem dX4_nameFrom_20 : decode cX4_nameFrom 20 = .ok (.aload_n 0, 1) := by decide +kernel
theorem dX4_nameFrom_21 : decode cX4_nameFrom 21 = .ok (.iload_n 2, 1) := by decide +kernel
theorem dX4_nameFrom_22 : decode cX4_nameFrom 22 = .ok (.invokevirtual 82, 3) := by decide +kernel
theorem dX4_nameFrom_25 : decode cX4_nameFrom 25 = .ok (.ireturn, 1) := by decide +kernel
theorem dX4_piece_0 : decode cX4_piece 0 = .ok (.iload_n 1, 1) := by decide +kernel
theorem dX4_piece_1 : decode cX4_piece 1 = .ok (.ifCond .lt 11, 3) := by decide +kernel
theorem dX4_piece_4 : decode cX4_piece 4 = .ok (.iload_n 1, 1) := by decide +kernel
theorem dX4_piece_5 : decode cX4_piece 5 = .ok (.aload_n 0, 1) := by decide +kernel
theorem dX4_piece_6 : decode cX4_piece 6 = .ok (.getfield 66, 3) := by decide +kernel
theorem dX4_piece_9 : decode cX4_piece 9 = .ok (.if_icmp .lt 5, 3) := by decide +kernel
theorem dX4_piece_12 : decode cX4_piece 12 = .ok (.iconst (-1), 1) := by decide +kernel
theorem dX4_piece_13 : decode cX4_piece 13 = .ok (.ireturn, 1) := by decide +kernel
theorem dX4_piece_14 : decode cX4_piece 14 = .ok (.iload_n 2, 1) := by decide +kernel
theorem dX4_piece_15 : decode cX4_piece 15 = .ok (.tableswitch 57 0 3 #[29, 36, 43, 50], 29) := by decide +kernel
theorem dX4_piece_44 : decode cX4_piece 44 = .ok (.aload_n 0, 1) := by decide +kernel
theorem dX4_piece_45 : decode cX4_piece 45 = .ok (.getfield 16, 3) := by decide +kernel
theorem dX4_piece_48 : decode cX4_piece 48 = .ok (.iload_n 1, 1) := by decide +kernel
theorem dX4_piece_49 : decode cX4_piece 49 = .ok (.iaload, 1) := by decide +kernel
theorem dX4_piece_50 : decode cX4_piece 50 = .ok (.ireturn, 1) := by decide +kernel
theorem dX4_piece_51 : decode cX4_piece 51 = .ok (.aload_n 0, 1) := by decide +kernel
theorem dX4_piece_52 : decode cX4_piece 52 = .ok (.getfield 19, 3) := by decide +kernel
theorem dX4_piece_55 : decode cX4_piece 55 = .ok (.iload_n 1, 1) := by decide +kernel
theorem dX4_piece_56 : decode cX4_piece 56 = .ok (.iaload, 1) := by decide +kernel
theorem dX4_piece_57 : decode cX4_piece 57 = .ok (.ireturn, 1) := by decide +kernel
theorem dX4_piece_58 : decode cX4_piece 58 = .ok (.aload_n 0, 1) := by decide +kernel
theorem dX4_piece_59 : decode cX4_piece 59 = .ok (.getfield 22, 3) := by decide +kernel
theorem dX4_piece_62 : decode cX4_piece 62 = .ok (.iload_n 1, 1) := by decide +kernel
theorem dX4_piece_63 : decode cX4_piece 63 = .ok (.iaload, 1) := by decide +kernel
theorem dX4_piece_64 : decode cX4_piece 64 = .ok (.ireturn, 1) := by decide +kernel
theorem dX4_piece_65 : decode cX4_piece 65 = .ok (.aload_n 0, 1) := by decide +kernel
theorem dX4_piece_66 : decode cX4_piece 66 = .ok (.getfield 25, 3) := by decide +kernel
theorem dX4_piece_69 : decode cX4_piece 69 = .ok (.iload_n 1, 1) := by decide +kernel
theorem dX4_piece_70 : decode cX4_piece 70 = .ok (.iaload, 1) := by decide +kernel
theorem dX4_piece_71 : decode cX4_piece 71 = .ok (.ireturn, 1) := by decide +kernel
theorem dX4_piece_72 : decode cX4_piece 72 = .ok (.iconst (-1), 1) := by decide +kernel
theorem dX4_piece_73 : decode cX4_piece 73 = .ok (.ireturn, 1) := by decide +kernel
theorem dX4_place_0 : decode cX4_place 0 = .ok (.aload_n 0, 1) := by decide +kernel
theorem dX4_place_1 : decode cX4_place 1 = .ok (.getfield 40, 3) := by decide +kernel
theorem dX4_place_4 : decode cX4_place 4 = .ok (.ireturn, 1) := by decide +kernel
theorem dX4_put_0 : decode cX4_put 0 = .ok (.iload_n 3, 1) := by decide +kernel
theorem dX4_put_1 : decode cX4_put 1 = .ok (.iconst 1, 1) := by decide +kernel
theorem dX4_put_2 : decode cX4_put 2 = .ok (.if_icmp .lt 21, 3) := by decide +kernel
theorem dX4_put_5 : decode cX4_put 5 = .ok (.iload_n 3, 1) := by decide +kernel
theorem dX4_put_6 : decode cX4_put 6 = .ok (.bipush 8, 2) := by decide +kernel
theorem dX4_put_8 : decode cX4_put 8 = .ok (.if_icmp .gt 15, 3) := by decide +kernel
theorem dX4_put_11 : decode cX4_put 11 = .ok (.aload_n 0, 1) := by decide +kernel
theorem dX4_put_12 : decode cX4_put 12 = .ok (.getfield 44, 3) := by decide +kernel
theorem dX4_put_15 : decode cX4_put 15 = .ok (.iload_n 3, 1) := by decide +kernel
theorem dX4_put_16 : decode cX4_put 16 = .ok (.iadd, 1) := by decide +kernel
theorem dX4_put_17 : decode cX4_put 17 = .ok (.sipush 500, 3) := by decide +kernel
theorem dX4_put_20 : decode cX4_put 20 = .ok (.if_icmp .le 5, 3) := by decide +kernel
theorem dX4_put_23 : decode cX4_put 23 = .ok (.iconst 0, 1) := by decide +kernel
theorem dX4_put_24 : decode cX4_put 24 = .ok (.ireturn, 1) := by decide +kernel
theorem dX4_put_25 : decode cX4_put 25 = .ok (.iconst 0, 1) := by decide +kernel
theorem dX4_put_26 : decode cX4_put 26 = .ok (.istore 4, 2) := by decide +kernel
theorem dX4_put_28 : decode cX4_put 28 = .ok (.iload 4, 2) := by decide +kernel
theorem dX4_put_30 : decode cX4_put 30 = .ok (.iload_n 3, 1) := by decide +kernel
theorem dX4_put_31 : decode cX4_put 31 = .ok (.if_icmp .ge 37, 3) := by decide +kernel
theorem dX4_put_34 : decode cX4_put 34 = .ok (.aload_n 0, 1) := by decide +kernel
theorem dX4_put_35 : decode cX4_put 35 = .ok (.getfield 7, 3) := by decide +kernel
theorem dX4_put_38 : decode cX4_put 38 = .ok (.aload_n 0, 1) := by decide +kernel
theorem dX4_put_39 : decode cX4_put 39 = .ok (.getfield 44, 3) := by decide +kernel
theorem dX4_put_42 : decode cX4_put 42 = .ok (.iload 4, 2) := by decide +kernel
theorem dX4_put_44 : decode cX4_put 44 = .ok (.iadd, 1) := by decide +kernel
theorem dX4_put_45 : decode cX4_put 45 = .ok (.lload_n 1, 1) := by decide +kernel
theorem dX4_put_46 : decode cX4_put 46 = .ok (.bipush 8, 2) := by decide +kernel
theorem dX4_put_48 : decode cX4_put 48 = .ok (.iload_n 3, 1) := by decide +kernel
theorem dX4_put_49 : decode cX4_put 49 = .ok (.iconst 1, 1) := by decide +kernel
theorem dX4_put_50 : decode cX4_put 50 = .ok (.isub, 1) := by decide +kernel
theorem dX4_put_51 : decode cX4_put 51 = .ok (.iload 4, 2) := by decide +kernel
theorem dX4_put_53 : decode cX4_put 53 = .ok (.isub, 1) := by decide +kernel
theorem dX4_put_54 : decode cX4_put 54 = .ok (.imul, 1) := by decide +kernel
theorem dX4_put_55 : decode cX4_put 55 = .ok (.lshr, 1) := by decide +kernel
theorem dX4_put_56 : decode cX4_put 56 = .ok (.ldc2_w 47, 3) := by decide +kernel
theorem dX4_put_59 : decode cX4_put 59 = .ok (.land, 1) := by decide +kernel
theorem dX4_put_60 : decode cX4_put 60 = .ok (.l2i, 1) := by decide +kernel
theorem dX4_put_61 : decode cX4_put 61 = .ok (.iastore, 1) := by decide +kernel
theorem dX4_put_62 : decode cX4_put 62 = .ok (.iinc 4 1, 3) := by decide +kernel
theorem dX4_put_65 : decode cX4_put 65 = .ok (.goto (-37), 3) := by decide +kernel
theorem dX4_put_68 : decode cX4_put 68 = .ok (.aload_n 0, 1) := by decide +kernel
theorem dX4_put_69 : decode cX4_put 69 = .ok (.aload_n 0, 1) := by decide +kernel
theorem dX4_put_70 : decode cX4_put 70 = .ok (.getfield 44, 3) := by decide +kernel
theorem dX4_put_73 : decode cX4_put 73 = .ok (.iload_n 3, 1) := by decide +kernel
theorem dX4_put_74 : decode cX4_put 74 = .ok (.iadd, 1) := by decide +kernel
theorem dX4_put_75 : decode cX4_put 75 = .ok (.putfield 44, 3) := by decide +kernel
theorem dX4_put_78 : decode cX4_put 78 = .ok (.iconst 1, 1) := by decide +kernel
theorem dX4_put_79 : decode cX4_put 79 = .ok (.ireturn, 1) := by decide +kernel
theorem dX4_read_0 : decode cX4_read 0 = .ok (.iconst 0, 1) := by decide +kernel
theorem dX4_read_1 : decode cX4_read 1 = .ok (.istore_n 1, 1) := by decide +kernel
theorem dX4_read_2 : decode cX4_read 2 = .ok (.iload_n 1, 1) := by decide +kernel
theorem dX4_read_3 : decode cX4_read 3 = .ok (.aload_n 0, 1) := by decide +kernel
theorem dX4_read_4 : decode cX4_read 4 = .ok (.getfield 44, 3) := by decide +kernel
theorem dX4_read_7 : decode cX4_read 7 = .ok (.if_icmp .ge 21, 3) := by decide +kernel
theorem dX4_read_10 : decode cX4_read 10 = .ok (.aload_n 0, 1) := by decide +kernel
theorem dX4_read_11 : decode cX4_read 11 = .ok (.getfield 13, 3) := by decide +kernel
theorem dX4_read_14 : decode cX4_read 14 = .ok (.iload_n 1, 1) := by decide +kernel
theorem dX4_read_15 : decode cX4_read 15 = .ok (.aload_n 0, 1) := by decide +kernel
theorem dX4_read_16 : decode cX4_read 16 = .ok (.getfield 7, 3) := by decide +kernel
theorem dX4_read_19 : decode cX4_read 19 = .ok (.iload_n 1, 1) := by decide +kernel
theorem dX4_read_20 : decode cX4_read 20 = .ok (.iaload, 1) := by decide +kernel
theorem dX4_read_21 : decode cX4_read 21 = .ok (.iastore, 1) := by decide +kernel
theorem dX4_read_22 : decode cX4_read 22 = .ok (.iinc 1 1, 3) := by decide +kernel
theorem dX4_read_25 : decode cX4_read 25 = .ok (.goto (-23), 3) := by decide +kernel
theorem dX4_read_28 : decode cX4_read 28 = .ok (.aload_n 0, 1) := by decide +kernel
theorem dX4_read_29 : decode cX4_read 29 = .ok (.aload_n 0, 1) := by decide +kernel
theorem dX4_read_30 : decode cX4_read 30 = .ok (.getfield 44, 3) := by decide +kernel
theorem dX4_read_33 : decode cX4_read 33 = .ok (.putfield 234, 3) := by decide +kernel
theorem dX4_read_36 : decode cX4_read 36 = .ok (.aload_n 0, 1) := by decide +kernel
theorem dX4_read_37 : decode cX4_read 37 = .ok (.iconst 0, 1) := by decide +kernel
theorem dX4_read_38 : decode cX4_read 38 = .ok (.putfield 44, 3) := by decide +kernel
theorem dX4_read_41 : decode cX4_read 41 = .ok (.aload_n 0, 1) := by decide +kernel
theorem dX4_read_42 : decode cX4_read 42 = .ok (.iconst 0, 1) := by decide +kernel
theorem dX4_read_43 : decode cX4_read 43 = .ok (.putfield 66, 3) := by decide +kernel
theorem dX4_read_46 : decode cX4_read 46 = .ok (.aload_n 0, 1) := by decide +kernel
theorem dX4_read_47 : decode cX4_read 47 = .ok (.iconst 0, 1) := by decide +kernel
theorem dX4_read_48 : decode cX4_read 48 = .ok (.putfield 72, 3) := by decide +kernel
theorem dX4_read_51 : decode cX4_read 51 = .ok (.aload_n 0, 1) := by decide +kernel
theorem dX4_read_52 : decode cX4_read 52 = .ok (.iconst 0, 1) := by decide +kernel
theorem dX4_read_53 : decode cX4_read 53 = .ok (.putfield 121, 3) := by decide +kernel
theorem dX4_read_56 : decode cX4_read 56 = .ok (.aload_n 0, 1) := by decide +kernel
theorem dX4_read_57 : decode cX4_read 57 = .ok (.iconst 0, 1) := by decide +kernel
theorem dX4_read_58 : decode cX4_read 58 = .ok (.putfield 118, 3) := by decide +kernel
theorem dX4_read_61 : decode cX4_read 61 = .ok (.aload_n 0, 1) := by decide +kernel
theorem dX4_read_62 : decode cX4_read 62 = .ok (.iconst 0, 1) := by decide +kernel
theorem dX4_read_63 : decode cX4_read 63 = .ok (.putfield 102, 3) := by decide +kernel
theorem dX4_read_66 : decode cX4_read 66 = .ok (.aload_n 0, 1) := by decide +kernel
theorem dX4_read_67 : decode cX4_read 67 = .ok (.iconst 0, 1) := by decide +kernel
theorem dX4_read_68 : decode cX4_read 68 = .ok (.putfield 133, 3) := by decide +kernel
theorem dX4_read_71 : decode cX4_read 71 = .ok (.aload_n 0, 1) := by decide +kernel
theorem dX4_read_72 : decode cX4_read 72 = .ok (.iconst (-1), 1) := by decide +kernel
theorem dX4_read_73 : decode cX4_read 73 = .ok (.putfield 40, 3) := by decide +kernel
theorem dX4_read_76 : decode cX4_read 76 = .ok (.aload_n 0, 1) := by decide +kernel
theorem dX4_read_77 : decode cX4_read 77 = .ok (.iconst 0, 1) := by decide +kernel
theorem dX4_read_78 : decode cX4_read 78 = .ok (.putfield 79, 3) := by decide +kernel
theorem dX4_read_81 : decode cX4_read 81 = .ok (.aload_n 0, 1) := by decide +kernel
theorem dX4_read_82 : decode cX4_read 82 = .ok (.iconst 0, 1) := by decide +kernel
theorem dX4_read_83 : decode cX4_read 83 = .ok (.putfield 56, 3) := by decide +kernel
theorem dX4_read_86 : decode cX4_read 86 = .ok (.aload_n 0, 1) := by decide +kernel
theorem dX4_read_87 : decode cX4_read 87 = .ok (.iconst 0, 1) := by decide +kernel
theorem dX4_read_88 : decode cX4_read 88 = .ok (.putfield 59, 3) := by decide +kernel
theorem dX4_read_91 : decode cX4_read 91 = .ok (.aload_n 0, 1) := by decide +kernel
theorem dX4_read_92 : decode cX4_read 92 = .ok (.iconst 0, 1) := by decide +kernel
theorem dX4_read_93 : decode cX4_read 93 = .ok (.putfield 130, 3) := by decide +kernel
theorem dX4_read_96 : decode cX4_read 96 = .ok (.aload_n 0, 1) := by decide +kernel
theorem dX4_read_97 : decode cX4_read 97 = .ok (.iconst (-1), 1) := by decide +kernel
theorem dX4_read_98 : decode cX4_read 98 = .ok (.putfield 149, 3) := by decide +kernel
theorem dX4_read_101 : decode cX4_read 101 = .ok (.aload_n 0, 1) := by decide +kernel
theorem dX4_read_102 : decode cX4_read 102 = .ok (.iconst 0, 1) := by decide +kernel
theorem dX4_read_103 : decode cX4_read 103 = .ok (.putfield 152, 3) := by decide +kernel
theorem dX4_read_106 : decode cX4_read 106 = .ok (.iconst 0, 1) := by decide +kernel
theorem dX4_read_107 : decode cX4_read 107 = .ok (.istore_n 1, 1) := by decide +kernel
theorem dX4_read_108 : decode cX4_read 108 = .ok (.aload_n 0, 1) := by decide +kernel
theorem dX4_read_109 : decode cX4_read 109 = .ok (.getfield 59, 3) := by decide +kernel
theorem dX4_read_112 : decode cX4_read 112 = .ok (.aload_n 0, 1) := by decide +kernel
theorem dX4_read_113 : decode cX4_read 113 = .ok (.getfield 234, 3) := by decide +kernel
theorem dX4_read_116 : decode cX4_read 116 = .ok (.if_icmp .ge 45, 3) := by decide +kernel
theorem dX4_read_119 : decode cX4_read 119 = .ok (.iload_n 1, 1) := by decide +kernel
theorem dX4_read_120 : decode cX4_read 120 = .ok (.ifCond .ne 41, 3) := by decide +kernel
theorem dX4_read_123 : decode cX4_read 123 = .ok (.aload_n 0, 1) := by decide +kernel
theorem dX4_read_124 : decode cX4_read 124 = .ok (.aload_n 0, 1) := by decide +kernel
theorem dX4_read_125 : decode cX4_read 125 = .ok (.getfield 13, 3) := by decide +kernel
theorem dX4_read_128 : decode cX4_read 128 = .ok (.aload_n 0, 1) := by decide +kernel
theorem dX4_read_129 : decode cX4_read 129 = .ok (.getfield 59, 3) := by decide +kernel
theorem dX4_read_132 : decode cX4_read 132 = .ok (.iaload, 1) := by decide +kernel
theorem dX4_read_133 : decode cX4_read 133 = .ok (.invokevirtual 237, 3) := by decide +kernel
theorem dX4_read_136 : decode cX4_read 136 = .ok (.istore_n 1, 1) := by decide +kernel
theorem dX4_read_137 : decode cX4_read 137 = .ok (.aload_n 0, 1) := by decide +kernel
theorem dX4_read_138 : decode cX4_read 138 = .ok (.iload_n 1, 1) := by decide +kernel
theorem dX4_read_139 : decode cX4_read 139 = .ok (.ifCond .ne 12, 3) := by decide +kernel
theorem dX4_read_142 : decode cX4_read 142 = .ok (.aload_n 0, 1) := by decide +kernel
theorem dX4_read_143 : decode cX4_read 143 = .ok (.getfield 59, 3) := by decide +kernel
theorem dX4_read_146 : decode cX4_read 146 = .ok (.iconst 1, 1) := by decide +kernel
theorem dX4_read_147 : decode cX4_read 147 = .ok (.iadd, 1) := by decide +kernel
theorem dX4_read_148 : decode cX4_read 148 = .ok (.goto 7, 3) := by decide +kernel
theorem dX4_read_151 : decode cX4_read 151 = .ok (.aload_n 0, 1) := by decide +kernel
theorem dX4_read_152 : decode cX4_read 152 = .ok (.getfield 59, 3) := by decide +kernel
theorem dX4_read_155 : decode cX4_read 155 = .ok (.putfield 59, 3) := by decide +kernel
theorem dX4_read_158 : decode cX4_read 158 = .ok (.goto (-50), 3) := by decide +kernel
theorem dX4_read_161 : decode cX4_read 161 = .ok (.iload_n 1, 1) := by decide +kernel
theorem dX4_read_162 : decode cX4_read 162 = .ok (.ifCond .ne 45, 3) := by decide +kernel
theorem dX4_read_165 : decode cX4_read 165 = .ok (.aload_n 0, 1) := by decide +kernel
theorem dX4_read_166 : decode cX4_read 166 = .ok (.getfield 56, 3) := by decide +kernel
theorem dX4_read_169 : decode cX4_read 169 = .ok (.bipush 11, 2) := by decide +kernel
theorem dX4_read_171 : decode cX4_read 171 = .ok (.if_icmp .eq 30, 3) := by decide +kernel
theorem dX4_read_174 : decode cX4_read 174 = .ok (.aload_n 0, 1) := by decide +kernel
theorem dX4_read_175 : decode cX4_read 175 = .ok (.getfield 56, 3) := by decide +kernel
theorem dX4_read_178 : decode cX4_read 178 = .ok (.bipush 21, 2) := by decide +kernel
theorem dX4_read_180 : decode cX4_read 180 = .ok (.if_icmp .eq 21, 3) := by decide +kernel
theorem dX4_read_183 : decode cX4_read 183 = .ok (.aload_n 0, 1) := by decide +kernel
theorem dX4_read_184 : decode cX4_read 184 = .ok (.getfield 56, 3) := by decide +kernel
theorem dX4_read_187 : decode cX4_read 187 = .ok (.bipush 30, 2) := by decide +kernel
theorem dX4_read_189 : decode cX4_read 189 = .ok (.if_icmp .eq 12, 3) := by decide +kernel
theorem dX4_read_192 : decode cX4_read 192 = .ok (.aload_n 0, 1) := by decide +kernel
theorem dX4_read_193 : decode cX4_read 193 = .ok (.getfield 56, 3) := by decide +kernel
theorem dX4_read_196 : decode cX4_read 196 = .ok (.bipush 33, 2) := by decide +kernel
theorem dX4_read_198 : decode cX4_read 198 = .ok (.if_icmp .ne 9, 3) := by decide +kernel
theorem dX4_read_201 : decode cX4_read 201 = .ok (.aload_n 0, 1) := by decide +kernel
theorem dX4_read_202 : decode cX4_read 202 = .ok (.iconst (-1), 1) := by decide +kernel
theorem dX4_read_203 : decode cX4_read 203 = .ok (.invokevirtual 237, 3) := by decide +kernel
theorem dX4_read_206 : decode cX4_read 206 = .ok (.istore_n 1, 1) := by decide +kernel
theorem dX4_read_207 : decode cX4_read 207 = .ok (.iload_n 1, 1) := by decide +kernel
theorem dX4_read_208 : decode cX4_read 208 = .ok (.ifCond .ne 23, 3) := by decide +kernel
theorem dX4_read_211 : decode cX4_read 211 = .ok (.aload_n 0, 1) := by decide +kernel
theorem dX4_read_212 : decode cX4_read 212 = .ok (.getfield 79, 3) := by decide +kernel
theorem dX4_read_215 : decode cX4_read 215 = .ok (.iconst 2, 1) := by decide +kernel
theorem dX4_read_216 : decode cX4_read 216 = .ok (.if_icmp .ne 10, 3) := by decide +kernel
theorem dX4_read_219 : decode cX4_read 219 = .ok (.aload_n 0, 1) := by decide +kernel
theorem dX4_read_220 : decode cX4_read 220 = .ok (.getfield 56, 3) := by decide +kernel
theorem dX4_read_223 : decode cX4_read 223 = .ok (.ifCond .eq 8, 3) := by decide +kernel
theorem dX4_read_226 : decode cX4_read 226 = .ok (.aload_n 0, 1) := by decide +kernel
theorem dX4_read_227 : decode cX4_read 227 = .ok (.invokevirtual 92, 3) := by decide +kernel
theorem dX4_read_230 : decode cX4_read 230 = .ok (.istore_n 1, 1) := by decide +kernel
theorem dX4_read_231 : decode cX4_read 231 = .ok (.iload_n 1, 1) := by decide +kernel
theorem dX4_read_232 : decode cX4_read 232 = .ok (.ifCond .ne 10, 3) := by decide +kernel
theorem dX4_read_235 : decode cX4_read 235 = .ok (.aload_n 0, 1) := by decide +kernel
theorem dX4_read_236 : decode cX4_read 236 = .ok (.getfield 66, 3) := by decide +kernel
theorem dX4_read_239 : decode cX4_read 239 = .ok (.goto 9, 3) := by decide +kernel
theorem dX4_read_242 : decode cX4_read 242 = .ok (.iconst (-1), 1) := by decide +kernel
theorem dX4_read_243 : decode cX4_read 243 = .ok (.aload_n 0, 1) := by decide +kernel
theorem dX4_read_244 : decode cX4_read 244 = .ok (.getfield 53, 3) := by decide +kernel
theorem dX4_read_247 : decode cX4_read 247 = .ok (.isub, 1) := by decide +kernel
theorem dX4_read_248 : decode cX4_read 248 = .ok (.ireturn, 1) := by decide +kernel
theorem dX4_refer_0 : decode cX4_refer 0 = .ok (.aload_n 0, 1) := by decide +kernel
theorem dX4_refer_1 : decode cX4_refer 1 = .ok (.lconst 0, 1) := by decide +kernel
theorem dX4_refer_2 : decode cX4_refer 2 = .ok (.putfield 175, 3) := by decide +kernel
theorem dX4_refer_5 : decode cX4_refer 5 = .ok (.iload_n 1, 1) := by decide +kernel
theorem dX4_refer_6 : decode cX4_refer 6 = .ok (.bipush 35, 2) := by decide +kernel
theorem dX4_refer_8 : decode cX4_refer 8 = .ok (.if_icmp .ne 10, 3) := by decide +kernel
theorem dX4_refer_11 : decode cX4_refer 11 = .ok (.aload_n 0, 1) := by decide +kernel
theorem dX4_refer_12 : decode cX4_refer 12 = .ok (.bipush 62, 2) := by decide +kernel
theorem dX4_refer_14 : decode cX4_refer 14 = .ok (.invokevirtual 82, 3) := by decide +kernel
theorem dX4_refer_17 : decode cX4_refer 17 = .ok (.ireturn, 1) := by decide +kernel
theorem dX4_refer_18 : decode cX4_refer 18 = .ok (.aload_n 0, 1) := by decide +kernel
theorem dX4_refer_19 : decode cX4_refer 19 = .ok (.iload_n 1, 1) := by decide +kernel
theorem dX4_refer_20 : decode cX4_refer 20 = .ok (.bipush 61, 2) := by decide +kernel
theorem dX4_refer_22 : decode cX4_refer 22 = .ok (.invokevirtual 186, 3) := by decide +kernel
theorem dX4_refer_25 : decode cX4_refer 25 = .ok (.ireturn, 1) := by decide +kernel
theorem dX4_referred_0 : decode cX4_referred 0 = .ok (.aload_n 0, 1) := by decide +kernel
theorem dX4_referred_1 : decode cX4_referred 1 = .ok (.getfield 130, 3) := by decide +kernel
theorem dX4_referred_4 : decode cX4_referred 4 = .ok (.ifCond .le 10, 3) := by decide +kernel
theorem dX4_referred_7 : decode cX4_referred 7 = .ok (.aload_n 0, 1) := by decide +kernel
theorem dX4_referred_8 : decode cX4_referred 8 = .ok (.bipush 36, 2) := by decide +kernel
theorem dX4_referred_10 : decode cX4_referred 10 = .ok (.invokevirtual 82, 3) := by decide +kernel
theorem dX4_referred_13 : decode cX4_referred 13 = .ok (.ireturn, 1) := by decide +kernel
theorem dX4_referred_14 : decode cX4_referred 14 = .ok (.aload_n 0, 1) := by decide +kernel
theorem dX4_referred_15 : decode cX4_referred 15 = .ok (.iconst 5, 1) := by decide +kernel
theorem dX4_referred_16 : decode cX4_referred 16 = .ok (.aload_n 0, 1) := by decide +kernel
theorem dX4_referred_17 : decode cX4_referred 17 = .ok (.getfield 136, 3) := by decide +kernel
theorem dX4_referred_20 : decode cX4_referred 20 = .ok (.aload_n 0, 1) := by decide +kernel
theorem dX4_referred_21 : decode cX4_referred 21 = .ok (.getfield 59, 3) := by decide +kernel
theorem dX4_referred_24 : decode cX4_referred 24 = .ok (.iconst 1, 1) := by decide +kernel
theorem dX4_referred_25 : decode cX4_referred 25 = .ok (.iadd, 1) := by decide +kernel
theorem dX4_referred_26 : decode cX4_referred 26 = .ok (.aload_n 0, 1) := by decide +kernel
theorem dX4_referred_27 : decode cX4_referred 27 = .ok (.getfield 72, 3) := by decide +kernel
theorem dX4_referred_30 : decode cX4_referred 30 = .ok (.invokevirtual 75, 3) := by decide +kernel
theorem dX4_referred_33 : decode cX4_referred 33 = .ok (.ifCond .ge 7, 3) := by decide +kernel
theorem dX4_referred_36 : decode cX4_referred 36 = .ok (.iconst (-1), 1) := by decide +kernel
theorem dX4_referred_37 : decode cX4_referred 37 = .ok (.goto 9, 3) := by decide +kernel
theorem dX4_referred_40 : decode cX4_referred 40 = .ok (.aload_n 0, 1) := by decide +kernel
theorem dX4_referred_41 : decode cX4_referred 41 = .ok (.bipush 50, 2) := by decide +kernel
theorem dX4_referred_43 : decode cX4_referred 43 = .ok (.invokevirtual 82, 3) := by decide +kernel
theorem dX4_referred_46 : decode cX4_referred 46 = .ok (.ireturn, 1) := by decide +kernel
theorem dX4_referredName_0 : decode cX4_referredName 0 = .ok (.iload_n 1, 1) := by decide +kernel
theorem dX4_referredName_1 : decode cX4_referredName 1 = .ok (.invokestatic 108, 3) := by decide +kernel
theorem dX4_referredName_4 : decode cX4_referredName 4 = .ok (.ifCond .eq 5, 3) := by decide +kernel
theorem dX4_referredName_7 : decode cX4_referredName 7 = .ok (.iconst 0, 1) := by decide +kernel
theorem dX4_referredName_8 : decode cX4_referredName 8 = .ok (.ireturn, 1) := by decide +kernel
theorem dX4_referredName_9 : decode cX4_referredName 9 = .ok (.iload_n 1, 1) := by decide +kernel
theorem dX4_referredName_10 : decode cX4_referredName 10 = .ok (.bipush 59, 2) := by decide +kernel
theorem dX4_referredName_12 : decode cX4_referredName 12 = .ok (.if_icmp .eq 8, 3) := by decide +kernel
theorem dX4_referredName_15 : decode cX4_referredName 15 = .ok (.aload_n 0, 1) := by decide +kernel
theorem dX4_referredName_16 : decode cX4_referredName 16 = .ok (.invokevirtual 92, 3) := by decide +kernel
theorem dX4_referredName_19 : decode cX4_referredName 19 = .ok (.ireturn, 1) := by decide +kernel
theorem dX4_referredName_20 : decode cX4_referredName 20 = .ok (.aload_n 0, 1) := by decide +kernel
theorem dX4_referredName_21 : decode cX4_referredName 21 = .ok (.ldc2_w 158, 3) := by decide +kernel
theorem dX4_referredName_24 : decode cX4_referredName 24 = .ok (.invokevirtual 160, 3) := by decide +kernel
theorem dX4_referredName_27 : decode cX4_referredName 27 = .ok (.ifCond .ne 43, 3) := by decide +kernel
theorem dX4_referredName_30 : decode cX4_referredName 30 = .ok (.aload_n 0, 1) := by decide +kernel
theorem dX4_referredName_31 : decode cX4_referredName 31 = .ok (.ldc2_w 164, 3) := by decide +kernel
theorem dX4_referredName_34 : decode cX4_referredName 34 = .ok (.invokevirtual 160, 3) := by decide +kernel
theorem dX4_referredName_37 : decode cX4_referredName 37 = .ok (.ifCond .ne 33, 3) := by decide +kernel
theorem dX4_referredName_40 : decode cX4_referredName 40 = .ok (.aload_n 0, 1) := by decide +kernel
theorem dX4_referredName_41 : decode cX4_referredName 41 = .ok (.ldc2_w 166, 3) := by decide +kernel
theorem dX4_referredName_44 : decode cX4_referredName 44 = .ok (.invokevirtual 160, 3) := by decide +kernel
theorem dX4_referredName_47 : decode cX4_referredName 47 = .ok (.ifCond .ne 23, 3) := by decide +kernel
theorem dX4_referredName_50 : decode cX4_referredName 50 = .ok (.aload_n 0, 1) := by decide +kernel
theorem dX4_referredName_51 : decode cX4_referredName 51 = .ok (.ldc2_w 168, 3) := by decide +kernel
theorem dX4_referredName_54 : decode cX4_referredName 54 = .ok (.invokevirtual 160, 3) := by decide +kernel
theorem dX4_referredName_57 : decode cX4_referredName 57 = .ok (.ifCond .ne 13, 3) := by decide +kernel
theorem dX4_referredName_60 : decode cX4_referredName 60 = .ok (.aload_n 0, 1) := by decide +kernel
theorem dX4_referredName_61 : decode cX4_referredName 61 = .ok (.ldc2_w 170, 3) := by decide +kernel
theorem dX4_referredName_64 : decode cX4_referredName 64 = .ok (.invokevirtual 160, 3) := by decide +kernel
theorem dX4_referredName_67 : decode cX4_referredName 67 = .ok (.ifCond .eq 7, 3) := by decide +kernel
theorem dX4_referredName_70 : decode cX4_referredName 70 = .ok (.iconst 1, 1) := by decide +kernel
theorem dX4_referredName_71 : decode cX4_referredName 71 = .ok (.goto 4, 3) := by decide +kernel
theorem dX4_referredName_74 : decode cX4_referredName 74 = .ok (.iconst 0, 1) := by decide +kernel
theorem dX4_referredName_75 : decode cX4_referredName 75 = .ok (.istore_n 2, 1) := by decide +kernel
theorem dX4_referredName_76 : decode cX4_referredName 76 = .ok (.iload_n 2, 1) := by decide +kernel
theorem dX4_referredName_77 : decode cX4_referredName 77 = .ok (.ifCond .eq 10, 3) := by decide +kernel
theorem dX4_referredName_80 : decode cX4_referredName 80 = .ok (.aload_n 0, 1) := by decide +kernel
theorem dX4_referredName_81 : decode cX4_referredName 81 = .ok (.invokevirtual 172, 3) := by decide +kernel
theorem dX4_referredName_84 : decode cX4_referredName 84 = .ok (.goto 12, 3) := by decide +kernel
theorem dX4_referredName_87 : decode cX4_referredName 87 = .ok (.aload_n 0, 1) := by decide +kernel
theorem dX4_referredName_88 : decode cX4_referredName 88 = .ok (.iconst 5, 1) := by decide +kernel
theorem dX4_referredName_89 : decode cX4_referredName 89 = .ok (.aload_n 0, 1) := by decide +kernel
theorem dX4_referredName_90 : decode cX4_referredName 90 = .ok (.getfield 136, 3) := by decide +kernel
theorem dX4_referredName_93 : decode cX4_referredName 93 = .ok (.invokevirtual 62, 3) := by decide +kernel
theorem dX4_referredName_96 : decode cX4_referredName 96 = .ok (.ireturn, 1) := by decide +kernel
theorem dX4_same_0 : decode cX4_same 0 = .ok (.iload_n 2, 1) := by decide +kernel
theorem dX4_same_1 : decode cX4_same 1 = .ok (.iload 4, 2) := by decide +kernel
theorem dX4_same_3 : decode cX4_same 3 = .ok (.if_icmp .ne 7, 3) := by decide +kernel
theorem dX4_same_6 : decode cX4_same 6 = .ok (.iconst 1, 1) := by decide +kernel
theorem dX4_same_7 : decode cX4_same 7 = .ok (.goto 4, 3) := by decide +kernel
theorem dX4_same_10 : decode cX4_same 10 = .ok (.iconst 0, 1) := by decide +kernel
theorem dX4_same_11 : decode cX4_same 11 = .ok (.istore 5, 2) := by decide +kernel
theorem dX4_same_13 : decode cX4_same 13 = .ok (.iconst 0, 1) := by decide +kernel
theorem dX4_same_14 : decode cX4_same 14 = .ok (.istore 6, 2) := by decide +kernel
theorem dX4_same_16 : decode cX4_same 16 = .ok (.iload 6, 2) := by decide +kernel
theorem dX4_same_18 : decode cX4_same 18 = .ok (.iload_n 2, 1) := by decide +kernel
theorem dX4_same_19 : decode cX4_same 19 = .ok (.if_icmp .ge 42, 3) := by decide +kernel
theorem dX4_same_22 : decode cX4_same 22 = .ok (.iload 5, 2) := by decide +kernel
theorem dX4_same_24 : decode cX4_same 24 = .ok (.ifCond .eq 37, 3) := by decide +kernel
theorem dX4_same_27 : decode cX4_same 27 = .ok (.aload_n 0, 1) := by decide +kernel
theorem dX4_same_28 : decode cX4_same 28 = .ok (.getfield 13, 3) := by decide +kernel
theorem dX4_same_31 : decode cX4_same 31 = .ok (.iload_n 1, 1) := by decide +kernel
theorem dX4_same_32 : decode cX4_same 32 = .ok (.iload 6, 2) := by decide +kernel
theorem dX4_same_34 : decode cX4_same 34 = .ok (.iadd, 1) := by decide +kernel
theorem dX4_same_35 : decode cX4_same 35 = .ok (.iaload, 1) := by decide +kernel
theorem dX4_same_36 : decode cX4_same 36 = .ok (.aload_n 0, 1) := by decide +kernel
theorem dX4_same_37 : decode cX4_same 37 = .ok (.getfield 13, 3) := by decide +kernel
theorem dX4_same_40 : decode cX4_same 40 = .ok (.iload_n 3, 1) := by decide +kernel
theorem dX4_same_41 : decode cX4_same 41 = .ok (.iload 6, 2) := by decide +kernel
theorem dX4_same_43 : decode cX4_same 43 = .ok (.iadd, 1) := by decide +kernel
theorem dX4_same_44 : decode cX4_same 44 = .ok (.iaload, 1) := by decide +kernel
theorem dX4_same_45 : decode cX4_same 45 = .ok (.if_icmp .ne 7, 3) := by decide +kernel
theorem dX4_same_48 : decode cX4_same 48 = .ok (.iconst 1, 1) := by decide +kernel
theorem dX4_same_49 : decode cX4_same 49 = .ok (.goto 4, 3) := by decide +kernel
theorem dX4_same_52 : decode cX4_same 52 = .ok (.iconst 0, 1) := by decide +kernel
theorem dX4_same_53 : decode cX4_same 53 = .ok (.istore 5, 2) := by decide +kernel
theorem dX4_same_55 : decode cX4_same 55 = .ok (.iinc 6 1, 3) := by decide +kernel
theorem dX4_same_58 : decode cX4_same 58 = .ok (.goto (-42), 3) := by decide +kernel
theorem dX4_same_61 : decode cX4_same 61 = .ok (.iload 5, 2) := by decide +kernel
theorem dX4_same_63 : decode cX4_same 63 = .ok (.ireturn, 1) := by decide +kernel
theorem dX4_section_0 : decode cX4_section 0 = .ok (.aload_n 0, 1) := by decide +kernel
theorem dX4_section_1 : decode cX4_section 1 = .ok (.getfield 142, 3) := by decide +kernel
theorem dX4_section_4 : decode cX4_section 4 = .ok (.ifCond .ne 8, 3) := by decide +kernel
theorem dX4_section_7 : decode cX4_section 7 = .ok (.bipush 67, 2) := by decide +kernel
theorem dX4_section_9 : decode cX4_section 9 = .ok (.goto 52, 3) := by decide +kernel
theorem dX4_section_12 : decode cX4_section 12 = .ok (.aload_n 0, 1) := by decide +kernel
theorem dX4_section_13 : decode cX4_section 13 = .ok (.getfield 142, 3) := by decide +kernel
theorem dX4_section_16 : decode cX4_section 16 = .ok (.iconst 1, 1) := by decide +kernel
theorem dX4_section_17 : decode cX4_section 17 = .ok (.if_icmp .ne 8, 3) := by decide +kernel
theorem dX4_section_20 : decode cX4_section 20 = .ok (.bipush 68, 2) := by decide +kernel
theorem dX4_section_22 : decode cX4_section 22 = .ok (.goto 39, 3) := by decide +kernel
theorem dX4_section_25 : decode cX4_section 25 = .ok (.aload_n 0, 1) := by decide +kernel
theorem dX4_section_26 : decode cX4_section 26 = .ok (.getfield 142, 3) := by decide +kernel
theorem dX4_section_29 : decode cX4_section 29 = .ok (.iconst 2, 1) := by decide +kernel
theorem dX4_section_30 : decode cX4_section 30 = .ok (.if_icmp .eq 11, 3) := by decide +kernel
theorem dX4_section_33 : decode cX4_section 33 = .ok (.aload_n 0, 1) := by decide +kernel
theorem dX4_section_34 : decode cX4_section 34 = .ok (.getfield 142, 3) := by decide +kernel
theorem dX4_section_37 : decode cX4_section 37 = .ok (.iconst 4, 1) := by decide +kernel
theorem dX4_section_38 : decode cX4_section 38 = .ok (.if_icmp .ne 8, 3) := by decide +kernel
theorem dX4_section_41 : decode cX4_section 41 = .ok (.bipush 65, 2) := by decide +kernel
theorem dX4_section_43 : decode cX4_section 43 = .ok (.goto 18, 3) := by decide +kernel
theorem dX4_section_46 : decode cX4_section 46 = .ok (.aload_n 0, 1) := by decide +kernel
theorem dX4_section_47 : decode cX4_section 47 = .ok (.getfield 142, 3) := by decide +kernel
theorem dX4_section_50 : decode cX4_section 50 = .ok (.iconst 3, 1) := by decide +kernel
theorem dX4_section_51 : decode cX4_section 51 = .ok (.if_icmp .ne 8, 3) := by decide +kernel
theorem dX4_section_54 : decode cX4_section 54 = .ok (.bipush 84, 2) := by decide +kernel
theorem dX4_section_56 : decode cX4_section 56 = .ok (.goto 5, 3) := by decide +kernel
theorem dX4_section_59 : decode cX4_section 59 = .ok (.bipush 91, 2) := by decide +kernel
theorem dX4_section_61 : decode cX4_section 61 = .ok (.istore_n 2, 1) := by decide +kernel
theorem dX4_section_62 : decode cX4_section 62 = .ok (.iload_n 1, 1) := by decide +kernel
theorem dX4_section_63 : decode cX4_section 63 = .ok (.iload_n 2, 1) := by decide +kernel
theorem dX4_section_64 : decode cX4_section 64 = .ok (.if_icmp .eq 8, 3) := by decide +kernel
theorem dX4_section_67 : decode cX4_section 67 = .ok (.aload_n 0, 1) := by decide +kernel
theorem dX4_section_68 : decode cX4_section 68 = .ok (.invokevirtual 92, 3) := by decide +kernel
theorem dX4_section_71 : decode cX4_section 71 = .ok (.ireturn, 1) := by decide +kernel
theorem dX4_section_72 : decode cX4_section 72 = .ok (.aload_n 0, 1) := by decide +kernel
theorem dX4_section_73 : decode cX4_section 73 = .ok (.aload_n 0, 1) := by decide +kernel
theorem dX4_section_74 : decode cX4_section 74 = .ok (.getfield 142, 3) := by decide +kernel
theorem dX4_section_77 : decode cX4_section 77 = .ok (.iconst 1, 1) := by decide +kernel
theorem dX4_section_78 : decode cX4_section 78 = .ok (.iadd, 1) := by decide +kernel
theorem dX4_section_79 : decode cX4_section 79 = .ok (.putfield 142, 3) := by decide +kernel
theorem dX4_section_82 : decode cX4_section 82 = .ok (.aload_n 0, 1) := by decide +kernel
theorem dX4_section_83 : decode cX4_section 83 = .ok (.getfield 142, 3) := by decide +kernel
theorem dX4_section_86 : decode cX4_section 86 = .ok (.bipush 6, 2) := by decide +kernel
theorem dX4_section_88 : decode cX4_section 88 = .ok (.if_icmp .ne 12, 3) := by decide +kernel
theorem dX4_section_91 : decode cX4_section 91 = .ok (.aload_n 0, 1) := by decide +kernel
theorem dX4_section_92 : decode cX4_section 92 = .ok (.bipush 41, 2) := by decide +kernel
theorem dX4_section_94 : decode cX4_section 94 = .ok (.invokevirtual 82, 3) := by decide +kernel
theorem dX4_section_97 : decode cX4_section 97 = .ok (.goto 4, 3) := by decide +kernel
theorem dX4_section_100 : decode cX4_section 100 = .ok (.iconst 0, 1) := by decide +kernel
theorem dX4_section_101 : decode cX4_section 101 = .ok (.ireturn, 1) := by decide +kernel
theorem dX4_start_0 : decode cX4_start 0 = .ok (.iload_n 1, 1) := by decide +kernel
theorem dX4_start_1 : decode cX4_start 1 = .ok (.invokestatic 89, 3) := by decide +kernel
theorem dX4_start_4 : decode cX4_start 4 = .ok (.ifCond .eq 10, 3) := by decide +kernel
theorem dX4_start_7 : decode cX4_start 7 = .ok (.aload_n 0, 1) := by decide +kernel
theorem dX4_start_8 : decode cX4_start 8 = .ok (.bipush 32, 2) := by decide +kernel
theorem dX4_start_10 : decode cX4_start 10 = .ok (.invokevirtual 82, 3) := by decide +kernel
theorem dX4_start_13 : decode cX4_start 13 = .ok (.ireturn, 1) := by decide +kernel
theorem dX4_start_14 : decode cX4_start 14 = .ok (.iload_n 1, 1) := by decide +kernel
theorem dX4_start_15 : decode cX4_start 15 = .ok (.bipush 47, 2) := by decide +kernel
theorem dX4_start_17 : decode cX4_start 17 = .ok (.if_icmp .ne 10, 3) := by decide +kernel
theorem dX4_start_20 : decode cX4_start 20 = .ok (.aload_n 0, 1) := by decide +kernel
theorem dX4_start_21 : decode cX4_start 21 = .ok (.bipush 38, 2) := by decide +kernel
theorem dX4_start_23 : decode cX4_start 23 = .ok (.invokevirtual 82, 3) := by decide +kernel
theorem dX4_start_26 : decode cX4_start 26 = .ok (.ireturn, 1) := by decide +kernel
theorem dX4_start_27 : decode cX4_start 27 = .ok (.iload_n 1, 1) := by decide +kernel
theorem dX4_start_28 : decode cX4_start 28 = .ok (.bipush 62, 2) := by decide +kernel
theorem dX4_start_30 : decode cX4_start 30 = .ok (.if_icmp .eq 8, 3) := by decide +kernel
theorem dX4_start_33 : decode cX4_start 33 = .ok (.aload_n 0, 1) := by decide +kernel
theorem dX4_start_34 : decode cX4_start 34 = .ok (.invokevirtual 92, 3) := by decide +kernel
theorem dX4_start_37 : decode cX4_start 37 = .ok (.ireturn, 1) := by decide +kernel
theorem dX4_start_38 : decode cX4_start 38 = .ok (.aload_n 0, 1) := by decide +kernel
theorem dX4_start_39 : decode cX4_start 39 = .ok (.iconst 0, 1) := by decide +kernel
theorem dX4_start_40 : decode cX4_start 40 = .ok (.aload_n 0, 1) := by decide +kernel
theorem dX4_start_41 : decode cX4_start 41 = .ok (.getfield 69, 3) := by decide +kernel
theorem dX4_start_44 : decode cX4_start 44 = .ok (.aload_n 0, 1) := by decide +kernel
theorem dX4_start_45 : decode cX4_start 45 = .ok (.getfield 59, 3) := by decide +kernel
theorem dX4_start_48 : decode cX4_start 48 = .ok (.iconst 1, 1) := by decide +kernel
theorem dX4_start_49 : decode cX4_start 49 = .ok (.iadd, 1) := by decide +kernel
theorem dX4_start_50 : decode cX4_start 50 = .ok (.aload_n 0, 1) := by decide +kernel
theorem dX4_start_51 : decode cX4_start 51 = .ok (.getfield 72, 3) := by decide +kernel
theorem dX4_start_54 : decode cX4_start 54 = .ok (.invokevirtual 75, 3) := by decide +kernel
theorem dX4_start_57 : decode cX4_start 57 = .ok (.ifCond .ge 5, 3) := by decide +kernel
theorem dX4_start_60 : decode cX4_start 60 = .ok (.iconst (-1), 1) := by decide +kernel
theorem dX4_start_61 : decode cX4_start 61 = .ok (.ireturn, 1) := by decide +kernel
theorem dX4_start_62 : decode cX4_start 62 = .ok (.aload_n 0, 1) := by decide +kernel
theorem dX4_start_63 : decode cX4_start 63 = .ok (.getfield 28, 3) := by decide +kernel
theorem dX4_start_66 : decode cX4_start 66 = .ok (.aload_n 0, 1) := by decide +kernel
theorem dX4_start_67 : decode cX4_start 67 = .ok (.getfield 72, 3) := by decide +kernel
theorem dX4_start_70 : decode cX4_start 70 = .ok (.aload_n 0, 1) := by decide +kernel
theorem dX4_start_71 : decode cX4_start 71 = .ok (.getfield 96, 3) := by decide +kernel
theorem dX4_start_74 : decode cX4_start 74 = .ok (.iastore, 1) := by decide +kernel
theorem dX4_start_75 : decode cX4_start 75 = .ok (.aload_n 0, 1) := by decide +kernel
theorem dX4_start_76 : decode cX4_start 76 = .ok (.getfield 31, 3) := by decide +kernel
theorem dX4_start_79 : decode cX4_start 79 = .ok (.aload_n 0, 1) := by decide +kernel
theorem dX4_start_80 : decode cX4_start 80 = .ok (.getfield 72, 3) := by decide +kernel
theorem dX4_start_83 : decode cX4_start 83 = .ok (.aload_n 0, 1) := by decide +kernel
theorem dX4_start_84 : decode cX4_start 84 = .ok (.getfield 99, 3) := by decide +kernel
theorem dX4_start_87 : decode cX4_start 87 = .ok (.iastore, 1) := by decide +kernel
theorem dX4_start_88 : decode cX4_start 88 = .ok (.aload_n 0, 1) := by decide +kernel
theorem dX4_start_89 : decode cX4_start 89 = .ok (.aload_n 0, 1) := by decide +kernel
theorem dX4_start_90 : decode cX4_start 90 = .ok (.getfield 72, 3) := by decide +kernel
theorem dX4_start_93 : decode cX4_start 93 = .ok (.iconst 1, 1) := by decide +kernel
theorem dX4_start_94 : decode cX4_start 94 = .ok (.iadd, 1) := by decide +kernel
theorem dX4_start_95 : decode cX4_start 95 = .ok (.putfield 72, 3) := by decide +kernel
theorem dX4_start_98 : decode cX4_start 98 = .ok (.aload_n 0, 1) := by decide +kernel
theorem dX4_start_99 : decode cX4_start 99 = .ok (.aload_n 0, 1) := by decide +kernel
theorem dX4_start_100 : decode cX4_start 100 = .ok (.getfield 72, 3) := by decide +kernel
theorem dX4_start_103 : decode cX4_start 103 = .ok (.aload_n 0, 1) := by decide +kernel
theorem dX4_start_104 : decode cX4_start 104 = .ok (.getfield 102, 3) := by decide +kernel
theorem dX4_start_107 : decode cX4_start 107 = .ok (.if_icmp .le 10, 3) := by decide +kernel
theorem dX4_start_110 : decode cX4_start 110 = .ok (.aload_n 0, 1) := by decide +kernel
theorem dX4_start_111 : decode cX4_start 111 = .ok (.getfield 72, 3) := by decide +kernel
theorem dX4_start_114 : decode cX4_start 114 = .ok (.goto 7, 3) := by decide +kernel
theorem dX4_start_117 : decode cX4_start 117 = .ok (.aload_n 0, 1) := by decide +kernel
theorem dX4_start_118 : decode cX4_start 118 = .ok (.getfield 102, 3) := by decide +kernel
theorem dX4_start_121 : decode cX4_start 121 = .ok (.putfield 102, 3) := by decide +kernel
theorem dX4_start_124 : decode cX4_start 124 = .ok (.aload_n 0, 1) := by decide +kernel
theorem dX4_start_125 : decode cX4_start 125 = .ok (.iconst 1, 1) := by decide +kernel
theorem dX4_start_126 : decode cX4_start 126 = .ok (.putfield 79, 3) := by decide +kernel
theorem dX4_start_129 : decode cX4_start 129 = .ok (.aload_n 0, 1) := by decide +kernel
theorem dX4_start_130 : decode cX4_start 130 = .ok (.bipush 50, 2) := by decide +kernel
theorem dX4_start_132 : decode cX4_start 132 = .ok (.invokevirtual 82, 3) := by decide +kernel
theorem dX4_start_135 : decode cX4_start 135 = .ok (.ireturn, 1) := by decide +kernel
theorem dX4_step_0 : decode cX4_step 0 = .ok (.aload_n 0, 1) := by decide +kernel
theorem dX4_step_1 : decode cX4_step 1 = .ok (.getfield 56, 3) := by decide +kernel
theorem dX4_step_4 : decode cX4_step 4 = .ok (.tableswitch 753 0 63 #[272, 310, 316, 322, 341, 350, 381, 753, 753, 753, 401, 409, 415, 425, 445, 753, 753, 753, 753, 753, 492, 500, 506, 753, 753, 753, 753, 753, 753, 753, 512, 753, 518, 524, 530, 536, 576, 582, 593, 753, 611, 617, 627, 659, 753, 753, 753, 753, 753, 753, 706, 753, 753, 753, 753, 753, 753, 753, 753, 753, 712, 718, 724, 745], 272) := by decide +kernel
theorem dX4_step_276 : decode cX4_step 276 = .ok (.aload_n 0, 1) := by decide +kernel
theorem dX4_step_277 : decode cX4_step 277 = .ok (.aload_n 0, 1) := by decide +kernel
theorem dX4_step_278 : decode cX4_step 278 = .ok (.getfield 59, 3) := by decide +kernel
theorem dX4_step_281 : decode cX4_step 281 = .ok (.putfield 69, 3) := by decide +kernel
theorem dX4_step_284 : decode cX4_step 284 = .ok (.iload_n 1, 1) := by decide +kernel
theorem dX4_step_285 : decode cX4_step 285 = .ok (.invokestatic 89, 3) := by decide +kernel
theorem dX4_step_288 : decode cX4_step 288 = .ok (.ifCond .eq 7, 3) := by decide +kernel
theorem dX4_step_291 : decode cX4_step 291 = .ok (.iconst 0, 1) := by decide +kernel
theorem dX4_step_292 : decode cX4_step 292 = .ok (.goto 21, 3) := by decide +kernel
theorem dX4_step_295 : decode cX4_step 295 = .ok (.iload_n 1, 1) := by decide +kernel
theorem dX4_step_296 : decode cX4_step 296 = .ok (.bipush 60, 2) := by decide +kernel
theorem dX4_step_298 : decode cX4_step 298 = .ok (.if_icmp .ne 11, 3) := by decide +kernel
theorem dX4_step_301 : decode cX4_step 301 = .ok (.aload_n 0, 1) := by decide +kernel
theorem dX4_step_302 : decode cX4_step 302 = .ok (.iconst 1, 1) := by decide +kernel
theorem dX4_step_303 : decode cX4_step 303 = .ok (.invokevirtual 82, 3) := by decide +kernel
theorem dX4_step_306 : decode cX4_step 306 = .ok (.goto 7, 3) := by decide +kernel
theorem dX4_step_309 : decode cX4_step 309 = .ok (.aload_n 0, 1) := by decide +kernel
theorem dX4_step_310 : decode cX4_step 310 = .ok (.invokevirtual 92, 3) := by decide +kernel
theorem dX4_step_313 : decode cX4_step 313 = .ok (.ireturn, 1) := by decide +kernel
theorem dX4_step_314 : decode cX4_step 314 = .ok (.aload_n 0, 1) := by decide +kernel
theorem dX4_step_315 : decode cX4_step 315 = .ok (.iload_n 1, 1) := by decide +kernel
theorem dX4_step_316 : decode cX4_step 316 = .ok (.invokevirtual 189, 3) := by decide +kernel
theorem dX4_step_319 : decode cX4_step 319 = .ok (.ireturn, 1) := by decide +kernel
theorem dX4_step_320 : decode cX4_step 320 = .ok (.aload_n 0, 1) := by decide +kernel
theorem dX4_step_321 : decode cX4_step 321 = .ok (.iload_n 1, 1) := by decide +kernel
theorem dX4_step_322 : decode cX4_step 322 = .ok (.invokevirtual 192, 3) := by decide +kernel
theorem dX4_step_325 : decode cX4_step 325 = .ok (.ireturn, 1) := by decide +kernel
theorem dX4_step_326 : decode cX4_step 326 = .ok (.iload_n 1, 1) := by decide +kernel
theorem dX4_step_327 : decode cX4_step 327 = .ok (.bipush 45, 2) := by decide +kernel
theorem dX4_step_329 : decode cX4_step 329 = .ok (.if_icmp .ne 11, 3) := by decide +kernel
theorem dX4_step_332 : decode cX4_step 332 = .ok (.aload_n 0, 1) := by decide +kernel
theorem dX4_step_333 : decode cX4_step 333 = .ok (.iconst 4, 1) := by decide +kernel
theorem dX4_step_334 : decode cX4_step 334 = .ok (.invokevirtual 82, 3) := by decide +kernel
theorem dX4_step_337 : decode cX4_step 337 = .ok (.goto 7, 3) := by decide +kernel
theorem dX4_step_340 : decode cX4_step 340 = .ok (.aload_n 0, 1) := by decide +kernel
theorem dX4_step_341 : decode cX4_step 341 = .ok (.invokevirtual 92, 3) := by decide +kernel
theorem dX4_step_344 : decode cX4_step 344 = .ok (.ireturn, 1) := by decide +kernel
theorem dX4_step_345 : decode cX4_step 345 = .ok (.aload_n 0, 1) := by decide +kernel
theorem dX4_step_346 : decode cX4_step 346 = .ok (.iload_n 1, 1) := by decide +kernel
theorem dX4_step_347 : decode cX4_step 347 = .ok (.bipush 45, 2) := by decide +kernel
theorem dX4_step_349 : decode cX4_step 349 = .ok (.iconst 5, 1) := by decide +kernel
theorem dX4_step_350 : decode cX4_step 350 = .ok (.invokevirtual 195, 3) := by decide +kernel
theorem dX4_step_353 : decode cX4_step 353 = .ok (.ireturn, 1) := by decide +kernel
theorem dX4_step_354 : decode cX4_step 354 = .ok (.iload_n 1, 1) := by decide +kernel
theorem dX4_step_355 : decode cX4_step 355 = .ok (.invokestatic 139, 3) := by decide +kernel
theorem dX4_step_358 : decode cX4_step 358 = .ok (.ifCond .ne 10, 3) := by decide +kernel
theorem dX4_step_361 : decode cX4_step 361 = .ok (.aload_n 0, 1) := by decide +kernel
theorem dX4_step_362 : decode cX4_step 362 = .ok (.invokevirtual 92, 3) := by decide +kernel
theorem dX4_step_365 : decode cX4_step 365 = .ok (.goto 19, 3) := by decide +kernel
theorem dX4_step_368 : decode cX4_step 368 = .ok (.aload_n 0, 1) := by decide +kernel
theorem dX4_step_369 : decode cX4_step 369 = .ok (.iload_n 1, 1) := by decide +kernel
theorem dX4_step_370 : decode cX4_step 370 = .ok (.bipush 45, 2) := by decide +kernel
theorem dX4_step_372 : decode cX4_step 372 = .ok (.if_icmp .ne 8, 3) := by decide +kernel
theorem dX4_step_375 : decode cX4_step 375 = .ok (.bipush 6, 2) := by decide +kernel
theorem dX4_step_377 : decode cX4_step 377 = .ok (.goto 4, 3) := by decide +kernel
theorem dX4_step_380 : decode cX4_step 380 = .ok (.iconst 4, 1) := by decide +kernel
theorem dX4_step_381 : decode cX4_step 381 = .ok (.invokevirtual 82, 3) := by decide +kernel
theorem dX4_step_384 : decode cX4_step 384 = .ok (.ireturn, 1) := by decide +kernel
theorem dX4_step_385 : decode cX4_step 385 = .ok (.iload_n 1, 1) := by decide +kernel
theorem dX4_step_386 : decode cX4_step 386 = .ok (.bipush 62, 2) := by decide +kernel
theorem dX4_step_388 : decode cX4_step 388 = .ok (.if_icmp .ne 12, 3) := by decide +kernel
theorem dX4_step_391 : decode cX4_step 391 = .ok (.aload_n 0, 1) := by decide +kernel
theorem dX4_step_392 : decode cX4_step 392 = .ok (.bipush 7, 2) := by decide +kernel
theorem dX4_step_394 : decode cX4_step 394 = .ok (.invokevirtual 105, 3) := by decide +kernel
theorem dX4_step_397 : decode cX4_step 397 = .ok (.goto 7, 3) := by decide +kernel
theorem dX4_step_400 : decode cX4_step 400 = .ok (.aload_n 0, 1) := by decide +kernel
theorem dX4_step_401 : decode cX4_step 401 = .ok (.invokevirtual 92, 3) := by decide +kernel
theorem dX4_step_404 : decode cX4_step 404 = .ok (.ireturn, 1) := by decide +kernel
theorem dX4_step_405 : decode cX4_step 405 = .ok (.aload_n 0, 1) := by decide +kernel
theorem dX4_step_406 : decode cX4_step 406 = .ok (.iload_n 1, 1) := by decide +kernel
theorem dX4_step_407 : decode cX4_step 407 = .ok (.bipush 11, 2) := by decide +kernel
theorem dX4_step_409 : decode cX4_step 409 = .ok (.invokevirtual 186, 3) := by decide +kernel
theorem dX4_step_412 : decode cX4_step 412 = .ok (.ireturn, 1) := by decide +kernel
theorem dX4_step_413 : decode cX4_step 413 = .ok (.aload_n 0, 1) := by decide +kernel
theorem dX4_step_414 : decode cX4_step 414 = .ok (.iload_n 1, 1) := by decide +kernel
theorem dX4_step_415 : decode cX4_step 415 = .ok (.invokevirtual 198, 3) := by decide +kernel
theorem dX4_step_418 : decode cX4_step 418 = .ok (.ireturn, 1) := by decide +kernel
theorem dX4_step_419 : decode cX4_step 419 = .ok (.aload_n 0, 1) := by decide +kernel
theorem dX4_step_420 : decode cX4_step 420 = .ok (.iload_n 1, 1) := by decide +kernel
theorem dX4_step_421 : decode cX4_step 421 = .ok (.bipush 63, 2) := by decide +kernel
theorem dX4_step_423 : decode cX4_step 423 = .ok (.bipush 14, 2) := by decide +kernel
theorem dX4_step_425 : decode cX4_step 425 = .ok (.invokevirtual 195, 3) := by decide +kernel
theorem dX4_step_428 : decode cX4_step 428 = .ok (.ireturn, 1) := by decide +kernel
theorem dX4_step_429 : decode cX4_step 429 = .ok (.iload_n 1, 1) := by decide +kernel
theorem dX4_step_430 : decode cX4_step 430 = .ok (.bipush 62, 2) := by decide +kernel
theorem dX4_step_432 : decode cX4_step 432 = .ok (.if_icmp .ne 12, 3) := by decide +kernel
theorem dX4_step_435 : decode cX4_step 435 = .ok (.aload_n 0, 1) := by decide +kernel
theorem dX4_step_436 : decode cX4_step 436 = .ok (.bipush 8, 2) := by decide +kernel
theorem dX4_step_438 : decode cX4_step 438 = .ok (.invokevirtual 105, 3) := by decide +kernel
theorem dX4_step_441 : decode cX4_step 441 = .ok (.goto 7, 3) := by decide +kernel
theorem dX4_step_444 : decode cX4_step 444 = .ok (.aload_n 0, 1) := by decide +kernel
theorem dX4_step_445 : decode cX4_step 445 = .ok (.invokevirtual 92, 3) := by decide +kernel
theorem dX4_step_448 : decode cX4_step 448 = .ok (.ireturn, 1) := by decide +kernel
theorem dX4_step_449 : decode cX4_step 449 = .ok (.iload_n 1, 1) := by decide +kernel
theorem dX4_step_450 : decode cX4_step 450 = .ok (.bipush 62, 2) := by decide +kernel
theorem dX4_step_452 : decode cX4_step 452 = .ok (.if_icmp .ne 12, 3) := by decide +kernel
theorem dX4_step_455 : decode cX4_step 455 = .ok (.aload_n 0, 1) := by decide +kernel
theorem dX4_step_456 : decode cX4_step 456 = .ok (.bipush 8, 2) := by decide +kernel
theorem dX4_step_458 : decode cX4_step 458 = .ok (.invokevirtual 105, 3) := by decide +kernel
theorem dX4_step_461 : decode cX4_step 461 = .ok (.goto 34, 3) := by decide +kernel
theorem dX4_step_464 : decode cX4_step 464 = .ok (.iload_n 1, 1) := by decide +kernel
theorem dX4_step_465 : decode cX4_step 465 = .ok (.invokestatic 139, 3) := by decide +kernel
theorem dX4_step_468 : decode cX4_step 468 = .ok (.ifCond .ne 10, 3) := by decide +kernel
theorem dX4_step_471 : decode cX4_step 471 = .ok (.aload_n 0, 1) := by decide +kernel
theorem dX4_step_472 : decode cX4_step 472 = .ok (.invokevirtual 92, 3) := by decide +kernel
theorem dX4_step_475 : decode cX4_step 475 = .ok (.goto 20, 3) := by decide +kernel
theorem dX4_step_478 : decode cX4_step 478 = .ok (.aload_n 0, 1) := by decide +kernel
theorem dX4_step_479 : decode cX4_step 479 = .ok (.iload_n 1, 1) := by decide +kernel
theorem dX4_step_480 : decode cX4_step 480 = .ok (.bipush 63, 2) := by decide +kernel
theorem dX4_step_482 : decode cX4_step 482 = .ok (.if_icmp .ne 8, 3) := by decide +kernel
theorem dX4_step_485 : decode cX4_step 485 = .ok (.bipush 14, 2) := by decide +kernel
theorem dX4_step_487 : decode cX4_step 487 = .ok (.goto 5, 3) := by decide +kernel
theorem dX4_step_490 : decode cX4_step 490 = .ok (.bipush 12, 2) := by decide +kernel
theorem dX4_step_492 : decode cX4_step 492 = .ok (.invokevirtual 82, 3) := by decide +kernel
theorem dX4_step_495 : decode cX4_step 495 = .ok (.ireturn, 1) := by decide +kernel
theorem dX4_step_496 : decode cX4_step 496 = .ok (.aload_n 0, 1) := by decide +kernel
theorem dX4_step_497 : decode cX4_step 497 = .ok (.iload_n 1, 1) := by decide +kernel
theorem dX4_step_498 : decode cX4_step 498 = .ok (.bipush 21, 2) := by decide +kernel
theorem dX4_step_500 : decode cX4_step 500 = .ok (.invokevirtual 186, 3) := by decide +kernel
theorem dX4_step_503 : decode cX4_step 503 = .ok (.ireturn, 1) := by decide +kernel
theorem dX4_step_504 : decode cX4_step 504 = .ok (.aload_n 0, 1) := by decide +kernel
theorem dX4_step_505 : decode cX4_step 505 = .ok (.iload_n 1, 1) := by decide +kernel
theorem dX4_step_506 : decode cX4_step 506 = .ok (.invokevirtual 201, 3) := by decide +kernel
theorem dX4_step_509 : decode cX4_step 509 = .ok (.ireturn, 1) := by decide +kernel
theorem dX4_step_510 : decode cX4_step 510 = .ok (.aload_n 0, 1) := by decide +kernel
theorem dX4_step_511 : decode cX4_step 511 = .ok (.iload_n 1, 1) := by decide +kernel
theorem dX4_step_512 : decode cX4_step 512 = .ok (.invokevirtual 115, 3) := by decide +kernel
theorem dX4_step_515 : decode cX4_step 515 = .ok (.ireturn, 1) := by decide +kernel
theorem dX4_step_516 : decode cX4_step 516 = .ok (.aload_n 0, 1) := by decide +kernel
theorem dX4_step_517 : decode cX4_step 517 = .ok (.iload_n 1, 1) := by decide +kernel
theorem dX4_step_518 : decode cX4_step 518 = .ok (.invokevirtual 204, 3) := by decide +kernel
theorem dX4_step_521 : decode cX4_step 521 = .ok (.ireturn, 1) := by decide +kernel
theorem dX4_step_522 : decode cX4_step 522 = .ok (.aload_n 0, 1) := by decide +kernel
theorem dX4_step_523 : decode cX4_step 523 = .ok (.iload_n 1, 1) := by decide +kernel
theorem dX4_step_524 : decode cX4_step 524 = .ok (.invokevirtual 207, 3) := by decide +kernel
theorem dX4_step_527 : decode cX4_step 527 = .ok (.ireturn, 1) := by decide +kernel
theorem dX4_step_528 : decode cX4_step 528 = .ok (.aload_n 0, 1) := by decide +kernel
theorem dX4_step_529 : decode cX4_step 529 = .ok (.iload_n 1, 1) := by decide +kernel
theorem dX4_step_530 : decode cX4_step 530 = .ok (.invokevirtual 210, 3) := by decide +kernel
theorem dX4_step_533 : decode cX4_step 533 = .ok (.ireturn, 1) := by decide +kernel
theorem dX4_step_534 : decode cX4_step 534 = .ok (.aload_n 0, 1) := by decide +kernel
theorem dX4_step_535 : decode cX4_step 535 = .ok (.iload_n 1, 1) := by decide +kernel
theorem dX4_step_536 : decode cX4_step 536 = .ok (.invokevirtual 127, 3) := by decide +kernel
theorem dX4_step_539 : decode cX4_step 539 = .ok (.ireturn, 1) := by decide +kernel
theorem dX4_step_540 : decode cX4_step 540 = .ok (.iload_n 1, 1) := by decide +kernel
theorem dX4_step_541 : decode cX4_step 541 = .ok (.invokestatic 89, 3) := by decide +kernel
theorem dX4_step_544 : decode cX4_step 544 = .ok (.ifCond .eq 5, 3) := by decide +kernel
theorem dX4_step_547 : decode cX4_step 547 = .ok (.iconst 0, 1) := by decide +kernel
theorem dX4_step_548 : decode cX4_step 548 = .ok (.ireturn, 1) := by decide +kernel
theorem dX4_step_549 : decode cX4_step 549 = .ok (.aload_n 0, 1) := by decide +kernel
theorem dX4_step_550 : decode cX4_step 550 = .ok (.iload_n 1, 1) := by decide +kernel
theorem dX4_step_551 : decode cX4_step 551 = .ok (.putfield 130, 3) := by decide +kernel
theorem dX4_step_554 : decode cX4_step 554 = .ok (.iload_n 1, 1) := by decide +kernel
theorem dX4_step_555 : decode cX4_step 555 = .ok (.bipush 34, 2) := by decide +kernel
theorem dX4_step_557 : decode cX4_step 557 = .ok (.if_icmp .eq 9, 3) := by decide +kernel
theorem dX4_step_560 : decode cX4_step 560 = .ok (.iload_n 1, 1) := by decide +kernel
theorem dX4_step_561 : decode cX4_step 561 = .ok (.bipush 39, 2) := by decide +kernel
theorem dX4_step_563 : decode cX4_step 563 = .ok (.if_icmp .ne 12, 3) := by decide +kernel
theorem dX4_step_566 : decode cX4_step 566 = .ok (.aload_n 0, 1) := by decide +kernel
theorem dX4_step_567 : decode cX4_step 567 = .ok (.bipush 36, 2) := by decide +kernel
theorem dX4_step_569 : decode cX4_step 569 = .ok (.invokevirtual 82, 3) := by decide +kernel
theorem dX4_step_572 : decode cX4_step 572 = .ok (.goto 7, 3) := by decide +kernel
theorem dX4_step_575 : decode cX4_step 575 = .ok (.aload_n 0, 1) := by decide +kernel
theorem dX4_step_576 : decode cX4_step 576 = .ok (.invokevirtual 92, 3) := by decide +kernel
theorem dX4_step_579 : decode cX4_step 579 = .ok (.ireturn, 1) := by decide +kernel
theorem dX4_step_580 : decode cX4_step 580 = .ok (.aload_n 0, 1) := by decide +kernel
theorem dX4_step_581 : decode cX4_step 581 = .ok (.iload_n 1, 1) := by decide +kernel
theorem dX4_step_582 : decode cX4_step 582 = .ok (.invokevirtual 213, 3) := by decide +kernel
theorem dX4_step_585 : decode cX4_step 585 = .ok (.ireturn, 1) := by decide +kernel
theorem dX4_step_586 : decode cX4_step 586 = .ok (.aload_n 0, 1) := by decide +kernel
theorem dX4_step_587 : decode cX4_step 587 = .ok (.iconst 0, 1) := by decide +kernel
theorem dX4_step_588 : decode cX4_step 588 = .ok (.putfield 130, 3) := by decide +kernel
theorem dX4_step_591 : decode cX4_step 591 = .ok (.aload_n 0, 1) := by decide +kernel
theorem dX4_step_592 : decode cX4_step 592 = .ok (.iload_n 1, 1) := by decide +kernel
theorem dX4_step_593 : decode cX4_step 593 = .ok (.invokevirtual 124, 3) := by decide +kernel
theorem dX4_step_596 : decode cX4_step 596 = .ok (.ireturn, 1) := by decide +kernel
theorem dX4_step_597 : decode cX4_step 597 = .ok (.iload_n 1, 1) := by decide +kernel
theorem dX4_step_598 : decode cX4_step 598 = .ok (.bipush 62, 2) := by decide +kernel
theorem dX4_step_600 : decode cX4_step 600 = .ok (.if_icmp .ne 10, 3) := by decide +kernel
theorem dX4_step_603 : decode cX4_step 603 = .ok (.aload_n 0, 1) := by decide +kernel
theorem dX4_step_604 : decode cX4_step 604 = .ok (.invokevirtual 216, 3) := by decide +kernel
theorem dX4_step_607 : decode cX4_step 607 = .ok (.goto 7, 3) := by decide +kernel
theorem dX4_step_610 : decode cX4_step 610 = .ok (.aload_n 0, 1) := by decide +kernel
theorem dX4_step_611 : decode cX4_step 611 = .ok (.invokevirtual 92, 3) := by decide +kernel
theorem dX4_step_614 : decode cX4_step 614 = .ok (.ireturn, 1) := by decide +kernel
theorem dX4_step_615 : decode cX4_step 615 = .ok (.aload_n 0, 1) := by decide +kernel
theorem dX4_step_616 : decode cX4_step 616 = .ok (.iload_n 1, 1) := by decide +kernel
theorem dX4_step_617 : decode cX4_step 617 = .ok (.invokevirtual 219, 3) := by decide +kernel
theorem dX4_step_620 : decode cX4_step 620 = .ok (.ireturn, 1) := by decide +kernel
theorem dX4_step_621 : decode cX4_step 621 = .ok (.aload_n 0, 1) := by decide +kernel
theorem dX4_step_622 : decode cX4_step 622 = .ok (.iload_n 1, 1) := by decide +kernel
theorem dX4_step_623 : decode cX4_step 623 = .ok (.bipush 93, 2) := by decide +kernel
theorem dX4_step_625 : decode cX4_step 625 = .ok (.bipush 42, 2) := by decide +kernel
theorem dX4_step_627 : decode cX4_step 627 = .ok (.invokevirtual 195, 3) := by decide +kernel
theorem dX4_step_630 : decode cX4_step 630 = .ok (.ireturn, 1) := by decide +kernel
theorem dX4_step_631 : decode cX4_step 631 = .ok (.iload_n 1, 1) := by decide +kernel
theorem dX4_step_632 : decode cX4_step 632 = .ok (.invokestatic 139, 3) := by decide +kernel
theorem dX4_step_635 : decode cX4_step 635 = .ok (.ifCond .ne 10, 3) := by decide +kernel
theorem dX4_step_638 : decode cX4_step 638 = .ok (.aload_n 0, 1) := by decide +kernel
theorem dX4_step_639 : decode cX4_step 639 = .ok (.invokevirtual 92, 3) := by decide +kernel
theorem dX4_step_642 : decode cX4_step 642 = .ok (.goto 20, 3) := by decide +kernel
theorem dX4_step_645 : decode cX4_step 645 = .ok (.aload_n 0, 1) := by decide +kernel
theorem dX4_step_646 : decode cX4_step 646 = .ok (.iload_n 1, 1) := by decide +kernel
theorem dX4_step_647 : decode cX4_step 647 = .ok (.bipush 93, 2) := by decide +kernel
theorem dX4_step_649 : decode cX4_step 649 = .ok (.if_icmp .ne 8, 3) := by decide +kernel
theorem dX4_step_652 : decode cX4_step 652 = .ok (.bipush 43, 2) := by decide +kernel
theorem dX4_step_654 : decode cX4_step 654 = .ok (.goto 5, 3) := by decide +kernel
theorem dX4_step_657 : decode cX4_step 657 = .ok (.bipush 41, 2) := by decide +kernel
theorem dX4_step_659 : decode cX4_step 659 = .ok (.invokevirtual 82, 3) := by decide +kernel
theorem dX4_step_662 : decode cX4_step 662 = .ok (.ireturn, 1) := by decide +kernel
theorem dX4_step_663 : decode cX4_step 663 = .ok (.iload_n 1, 1) := by decide +kernel
theorem dX4_step_664 : decode cX4_step 664 = .ok (.bipush 62, 2) := by decide +kernel
theorem dX4_step_666 : decode cX4_step 666 = .ok (.if_icmp .ne 12, 3) := by decide +kernel
theorem dX4_step_669 : decode cX4_step 669 = .ok (.aload_n 0, 1) := by decide +kernel
theorem dX4_step_670 : decode cX4_step 670 = .ok (.bipush 6, 2) := by decide +kernel
theorem dX4_step_672 : decode cX4_step 672 = .ok (.invokevirtual 105, 3) := by decide +kernel
theorem dX4_step_675 : decode cX4_step 675 = .ok (.goto 34, 3) := by decide +kernel
theorem dX4_step_678 : decode cX4_step 678 = .ok (.iload_n 1, 1) := by decide +kernel
theorem dX4_step_679 : decode cX4_step 679 = .ok (.invokestatic 139, 3) := by decide +kernel
theorem dX4_step_682 : decode cX4_step 682 = .ok (.ifCond .ne 10, 3) := by decide +kernel
theorem dX4_step_685 : decode cX4_step 685 = .ok (.aload_n 0, 1) := by decide +kernel
theorem dX4_step_686 : decode cX4_step 686 = .ok (.invokevirtual 92, 3) := by decide +kernel
theorem dX4_step_689 : decode cX4_step 689 = .ok (.goto 20, 3) := by decide +kernel
theorem dX4_step_692 : decode cX4_step 692 = .ok (.aload_n 0, 1) := by decide +kernel
theorem dX4_step_693 : decode cX4_step 693 = .ok (.iload_n 1, 1) := by decide +kernel
theorem dX4_step_694 : decode cX4_step 694 = .ok (.bipush 93, 2) := by decide +kernel
theorem dX4_step_696 : decode cX4_step 696 = .ok (.if_icmp .ne 8, 3) := by decide +kernel
theorem dX4_step_699 : decode cX4_step 699 = .ok (.bipush 43, 2) := by decide +kernel
theorem dX4_step_701 : decode cX4_step 701 = .ok (.goto 5, 3) := by decide +kernel
theorem dX4_step_704 : decode cX4_step 704 = .ok (.bipush 41, 2) := by decide +kernel
theorem dX4_step_706 : decode cX4_step 706 = .ok (.invokevirtual 82, 3) := by decide +kernel
theorem dX4_step_709 : decode cX4_step 709 = .ok (.ireturn, 1) := by decide +kernel
theorem dX4_step_710 : decode cX4_step 710 = .ok (.aload_n 0, 1) := by decide +kernel
theorem dX4_step_711 : decode cX4_step 711 = .ok (.iload_n 1, 1) := by decide +kernel
theorem dX4_step_712 : decode cX4_step 712 = .ok (.invokevirtual 222, 3) := by decide +kernel
theorem dX4_step_715 : decode cX4_step 715 = .ok (.ireturn, 1) := by decide +kernel
theorem dX4_step_716 : decode cX4_step 716 = .ok (.aload_n 0, 1) := by decide +kernel
theorem dX4_step_717 : decode cX4_step 717 = .ok (.iload_n 1, 1) := by decide +kernel
theorem dX4_step_718 : decode cX4_step 718 = .ok (.invokevirtual 225, 3) := by decide +kernel
theorem dX4_step_721 : decode cX4_step 721 = .ok (.ireturn, 1) := by decide +kernel
theorem dX4_step_722 : decode cX4_step 722 = .ok (.aload_n 0, 1) := by decide +kernel
theorem dX4_step_723 : decode cX4_step 723 = .ok (.iload_n 1, 1) := by decide +kernel
theorem dX4_step_724 : decode cX4_step 724 = .ok (.invokevirtual 228, 3) := by decide +kernel
theorem dX4_step_727 : decode cX4_step 727 = .ok (.ireturn, 1) := by decide +kernel
theorem dX4_step_728 : decode cX4_step 728 = .ok (.iload_n 1, 1) := by decide +kernel
theorem dX4_step_729 : decode cX4_step 729 = .ok (.bipush 120, 2) := by decide +kernel
theorem dX4_step_731 : decode cX4_step 731 = .ok (.if_icmp .ne 10, 3) := by decide +kernel
theorem dX4_step_734 : decode cX4_step 734 = .ok (.aload_n 0, 1) := by decide +kernel
theorem dX4_step_735 : decode cX4_step 735 = .ok (.bipush 64, 2) := by decide +kernel
theorem dX4_step_737 : decode cX4_step 737 = .ok (.invokevirtual 82, 3) := by decide +kernel
theorem dX4_step_740 : decode cX4_step 740 = .ok (.ireturn, 1) := by decide +kernel
theorem dX4_step_741 : decode cX4_step 741 = .ok (.aload_n 0, 1) := by decide +kernel
theorem dX4_step_742 : decode cX4_step 742 = .ok (.iload_n 1, 1) := by decide +kernel
theorem dX4_step_743 : decode cX4_step 743 = .ok (.bipush 10, 2) := by decide +kernel
theorem dX4_step_745 : decode cX4_step 745 = .ok (.invokevirtual 231, 3) := by decide +kernel
theorem dX4_step_748 : decode cX4_step 748 = .ok (.ireturn, 1) := by decide +kernel
theorem dX4_step_749 : decode cX4_step 749 = .ok (.aload_n 0, 1) := by decide +kernel
theorem dX4_step_750 : decode cX4_step 750 = .ok (.iload_n 1, 1) := by decide +kernel
theorem dX4_step_751 : decode cX4_step 751 = .ok (.bipush 10, 2) := by decide +kernel
theorem dX4_step_753 : decode cX4_step 753 = .ok (.invokevirtual 231, 3) := by decide +kernel
theorem dX4_step_756 : decode cX4_step 756 = .ok (.ireturn, 1) := by decide +kernel
theorem dX4_step_757 : decode cX4_step 757 = .ok (.aload_n 0, 1) := by decide +kernel
theorem dX4_step_758 : decode cX4_step 758 = .ok (.iload_n 1, 1) := by decide +kernel
theorem dX4_step_759 : decode cX4_step 759 = .ok (.bipush 16, 2) := by decide +kernel
theorem dX4_step_761 : decode cX4_step 761 = .ok (.invokevirtual 231, 3) := by decide +kernel
theorem dX4_step_764 : decode cX4_step 764 = .ok (.ireturn, 1) := by decide +kernel
theorem dX4_tagName_0 : decode cX4_tagName 0 = .ok (.iload_n 1, 1) := by decide +kernel
theorem dX4_tagName_1 : decode cX4_tagName 1 = .ok (.invokestatic 108, 3) := by decide +kernel
theorem dX4_tagName_4 : decode cX4_tagName 4 = .ok (.ifCond .eq 5, 3) := by decide +kernel
theorem dX4_tagName_7 : decode cX4_tagName 7 = .ok (.iconst 0, 1) := by decide +kernel
theorem dX4_tagName_8 : decode cX4_tagName 8 = .ok (.ireturn, 1) := by decide +kernel
theorem dX4_tagName_9 : decode cX4_tagName 9 = .ok (.aload_n 0, 1) := by decide +kernel
theorem dX4_tagName_10 : decode cX4_tagName 10 = .ok (.getfield 72, 3) := by decide +kernel
theorem dX4_tagName_13 : decode cX4_tagName 13 = .ok (.bipush 20, 2) := by decide +kernel
theorem dX4_tagName_15 : decode cX4_tagName 15 = .ok (.if_icmp .ne 14, 3) := by decide +kernel
theorem dX4_tagName_18 : decode cX4_tagName 18 = .ok (.aload_n 0, 1) := by decide +kernel
theorem dX4_tagName_19 : decode cX4_tagName 19 = .ok (.bipush 15, 2) := by decide +kernel
theorem dX4_tagName_21 : decode cX4_tagName 21 = .ok (.aload_n 0, 1) := by decide +kernel
theorem dX4_tagName_22 : decode cX4_tagName 22 = .ok (.getfield 86, 3) := by decide +kernel
theorem dX4_tagName_25 : decode cX4_tagName 25 = .ok (.invokevirtual 62, 3) := by decide +kernel
theorem dX4_tagName_28 : decode cX4_tagName 28 = .ok (.ireturn, 1) := by decide +kernel
theorem dX4_tagName_29 : decode cX4_tagName 29 = .ok (.aload_n 0, 1) := by decide +kernel
theorem dX4_tagName_30 : decode cX4_tagName 30 = .ok (.aload_n 0, 1) := by decide +kernel
theorem dX4_tagName_31 : decode cX4_tagName 31 = .ok (.getfield 118, 3) := by decide +kernel
theorem dX4_tagName_34 : decode cX4_tagName 34 = .ok (.iconst 1, 1) := by decide +kernel
theorem dX4_tagName_35 : decode cX4_tagName 35 = .ok (.iadd, 1) := by decide +kernel
theorem dX4_tagName_36 : decode cX4_tagName 36 = .ok (.putfield 118, 3) := by decide +kernel
theorem dX4_tagName_39 : decode cX4_tagName 39 = .ok (.aload_n 0, 1) := by decide +kernel
theorem dX4_tagName_40 : decode cX4_tagName 40 = .ok (.aload_n 0, 1) := by decide +kernel
theorem dX4_tagName_41 : decode cX4_tagName 41 = .ok (.getfield 86, 3) := by decide +kernel
theorem dX4_tagName_44 : decode cX4_tagName 44 = .ok (.putfield 96, 3) := by decide +kernel
theorem dX4_tagName_47 : decode cX4_tagName 47 = .ok (.aload_n 0, 1) := by decide +kernel
theorem dX4_tagName_48 : decode cX4_tagName 48 = .ok (.aload_n 0, 1) := by decide +kernel
theorem dX4_tagName_49 : decode cX4_tagName 49 = .ok (.getfield 59, 3) := by decide +kernel
theorem dX4_tagName_52 : decode cX4_tagName 52 = .ok (.aload_n 0, 1) := by decide +kernel
theorem dX4_tagName_53 : decode cX4_tagName 53 = .ok (.getfield 86, 3) := by decide +kernel
theorem dX4_tagName_56 : decode cX4_tagName 56 = .ok (.isub, 1) := by decide +kernel
theorem dX4_tagName_57 : decode cX4_tagName 57 = .ok (.putfield 99, 3) := by decide +kernel
theorem dX4_tagName_60 : decode cX4_tagName 60 = .ok (.aload_n 0, 1) := by decide +kernel
theorem dX4_tagName_61 : decode cX4_tagName 61 = .ok (.iconst 0, 1) := by decide +kernel
theorem dX4_tagName_62 : decode cX4_tagName 62 = .ok (.putfield 121, 3) := by decide +kernel
theorem dX4_tagName_65 : decode cX4_tagName 65 = .ok (.aload_n 0, 1) := by decide +kernel
theorem dX4_tagName_66 : decode cX4_tagName 66 = .ok (.iload_n 1, 1) := by decide +kernel
theorem dX4_tagName_67 : decode cX4_tagName 67 = .ok (.invokevirtual 124, 3) := by decide +kernel
theorem dX4_tagName_70 : decode cX4_tagName 70 = .ok (.ireturn, 1) := by decide +kernel
theorem dX4_target_0 : decode cX4_target 0 = .ok (.iload_n 1, 1) := by decide +kernel
theorem dX4_target_1 : decode cX4_target 1 = .ok (.invokestatic 108, 3) := by decide +kernel
theorem dX4_target_4 : decode cX4_target 4 = .ok (.ifCond .eq 5, 3) := by decide +kernel
theorem dX4_target_7 : decode cX4_target 7 = .ok (.iconst 0, 1) := by decide +kernel
theorem dX4_target_8 : decode cX4_target 8 = .ok (.ireturn, 1) := by decide +kernel
theorem dX4_target_9 : decode cX4_target 9 = .ok (.aload_n 0, 1) := by decide +kernel
theorem dX4_target_10 : decode cX4_target 10 = .ok (.invokevirtual 145, 3) := by decide +kernel
theorem dX4_target_13 : decode cX4_target 13 = .ok (.ifCond .eq 14, 3) := by decide +kernel
theorem dX4_target_16 : decode cX4_target 16 = .ok (.aload_n 0, 1) := by decide +kernel
theorem dX4_target_17 : decode cX4_target 17 = .ok (.bipush 11, 2) := by decide +kernel
theorem dX4_target_19 : decode cX4_target 19 = .ok (.aload_n 0, 1) := by decide +kernel
theorem dX4_target_20 : decode cX4_target 20 = .ok (.getfield 86, 3) := by decide +kernel
theorem dX4_target_23 : decode cX4_target 23 = .ok (.invokevirtual 62, 3) := by decide +kernel
theorem dX4_target_26 : decode cX4_target 26 = .ok (.ireturn, 1) := by decide +kernel
theorem dX4_target_27 : decode cX4_target 27 = .ok (.iload_n 1, 1) := by decide +kernel
theorem dX4_target_28 : decode cX4_target 28 = .ok (.invokestatic 89, 3) := by decide +kernel
theorem dX4_target_31 : decode cX4_target 31 = .ok (.ifCond .eq 12, 3) := by decide +kernel
theorem dX4_target_34 : decode cX4_target 34 = .ok (.aload_n 0, 1) := by decide +kernel
theorem dX4_target_35 : decode cX4_target 35 = .ok (.bipush 12, 2) := by decide +kernel
theorem dX4_target_37 : decode cX4_target 37 = .ok (.invokevirtual 82, 3) := by decide +kernel
theorem dX4_target_40 : decode cX4_target 40 = .ok (.goto 22, 3) := by decide +kernel
theorem dX4_target_43 : decode cX4_target 43 = .ok (.iload_n 1, 1) := by decide +kernel
theorem dX4_target_44 : decode cX4_target 44 = .ok (.bipush 63, 2) := by decide +kernel
theorem dX4_target_46 : decode cX4_target 46 = .ok (.if_icmp .ne 12, 3) := by decide +kernel
theorem dX4_target_49 : decode cX4_target 49 = .ok (.aload_n 0, 1) := by decide +kernel
theorem dX4_target_50 : decode cX4_target 50 = .ok (.bipush 13, 2) := by decide +kernel
theorem dX4_target_52 : decode cX4_target 52 = .ok (.invokevirtual 82, 3) := by decide +kernel
theorem dX4_target_55 : decode cX4_target 55 = .ok (.goto 7, 3) := by decide +kernel
theorem dX4_target_58 : decode cX4_target 58 = .ok (.aload_n 0, 1) := by decide +kernel
theorem dX4_target_59 : decode cX4_target 59 = .ok (.invokevirtual 92, 3) := by decide +kernel
theorem dX4_target_62 : decode cX4_target 62 = .ok (.ireturn, 1) := by decide +kernel
theorem dX4_text_0 : decode cX4_text 0 = .ok (.iload_n 1, 1) := by decide +kernel
theorem dX4_text_1 : decode cX4_text 1 = .ok (.invokestatic 139, 3) := by decide +kernel
theorem dX4_text_4 : decode cX4_text 4 = .ok (.ifCond .ne 10, 3) := by decide +kernel
theorem dX4_text_7 : decode cX4_text 7 = .ok (.aload_n 0, 1) := by decide +kernel
theorem dX4_text_8 : decode cX4_text 8 = .ok (.invokevirtual 92, 3) := by decide +kernel
theorem dX4_text_11 : decode cX4_text 11 = .ok (.goto 17, 3) := by decide +kernel
theorem dX4_text_14 : decode cX4_text 14 = .ok (.iload_n 1, 1) := by decide +kernel
theorem dX4_text_15 : decode cX4_text 15 = .ok (.iload_n 2, 1) := by decide +kernel
theorem dX4_text_16 : decode cX4_text 16 = .ok (.if_icmp .ne 11, 3) := by decide +kernel
theorem dX4_text_19 : decode cX4_text 19 = .ok (.aload_n 0, 1) := by decide +kernel
theorem dX4_text_20 : decode cX4_text 20 = .ok (.iload_n 3, 1) := by decide +kernel
theorem dX4_text_21 : decode cX4_text 21 = .ok (.invokevirtual 82, 3) := by decide +kernel
theorem dX4_text_24 : decode cX4_text 24 = .ok (.goto 4, 3) := by decide +kernel
theorem dX4_text_27 : decode cX4_text 27 = .ok (.iconst 0, 1) := by decide +kernel
theorem dX4_text_28 : decode cX4_text 28 = .ok (.ireturn, 1) := by decide +kernel
theorem dX4_value_0 : decode cX4_value 0 = .ok (.iload_n 1, 1) := by decide +kernel
theorem dX4_value_1 : decode cX4_value 1 = .ok (.aload_n 0, 1) := by decide +kernel
theorem dX4_value_2 : decode cX4_value 2 = .ok (.getfield 130, 3) := by decide +kernel
theorem dX4_value_5 : decode cX4_value 5 = .ok (.if_icmp .ne 51, 3) := by decide +kernel
theorem dX4_value_8 : decode cX4_value 8 = .ok (.aload_n 0, 1) := by decide +kernel
theorem dX4_value_9 : decode cX4_value 9 = .ok (.iconst 3, 1) := by decide +kernel
theorem dX4_value_10 : decode cX4_value 10 = .ok (.aload_n 0, 1) := by decide +kernel
theorem dX4_value_11 : decode cX4_value 11 = .ok (.getfield 34, 3) := by decide +kernel
theorem dX4_value_14 : decode cX4_value 14 = .ok (.aload_n 0, 1) := by decide +kernel
theorem dX4_value_15 : decode cX4_value 15 = .ok (.getfield 121, 3) := by decide +kernel
theorem dX4_value_18 : decode cX4_value 18 = .ok (.iconst 1, 1) := by decide +kernel
theorem dX4_value_19 : decode cX4_value 19 = .ok (.isub, 1) := by decide +kernel
theorem dX4_value_20 : decode cX4_value 20 = .ok (.iaload, 1) := by decide +kernel
theorem dX4_value_21 : decode cX4_value 21 = .ok (.aload_n 0, 1) := by decide +kernel
theorem dX4_value_22 : decode cX4_value 22 = .ok (.getfield 59, 3) := by decide +kernel
theorem dX4_value_25 : decode cX4_value 25 = .ok (.iconst 1, 1) := by decide +kernel
theorem dX4_value_26 : decode cX4_value 26 = .ok (.iadd, 1) := by decide +kernel
theorem dX4_value_27 : decode cX4_value 27 = .ok (.aload_n 0, 1) := by decide +kernel
theorem dX4_value_28 : decode cX4_value 28 = .ok (.getfield 72, 3) := by decide +kernel
theorem dX4_value_31 : decode cX4_value 31 = .ok (.invokevirtual 75, 3) := by decide +kernel
theorem dX4_value_34 : decode cX4_value 34 = .ok (.ifCond .ge 5, 3) := by decide +kernel
theorem dX4_value_37 : decode cX4_value 37 = .ok (.iconst (-1), 1) := by decide +kernel
theorem dX4_value_38 : decode cX4_value 38 = .ok (.ireturn, 1) := by decide +kernel
theorem dX4_value_39 : decode cX4_value 39 = .ok (.aload_n 0, 1) := by decide +kernel
theorem dX4_value_40 : decode cX4_value 40 = .ok (.aload_n 0, 1) := by decide +kernel
theorem dX4_value_41 : decode cX4_value 41 = .ok (.getfield 133, 3) := by decide +kernel
theorem dX4_value_44 : decode cX4_value 44 = .ok (.iconst 1, 1) := by decide +kernel
theorem dX4_value_45 : decode cX4_value 45 = .ok (.iadd, 1) := by decide +kernel
theorem dX4_value_46 : decode cX4_value 46 = .ok (.putfield 133, 3) := by decide +kernel
theorem dX4_value_49 : decode cX4_value 49 = .ok (.aload_n 0, 1) := by decide +kernel
theorem dX4_value_50 : decode cX4_value 50 = .ok (.bipush 37, 2) := by decide +kernel
theorem dX4_value_52 : decode cX4_value 52 = .ok (.invokevirtual 82, 3) := by decide +kernel
theorem dX4_value_55 : decode cX4_value 55 = .ok (.ireturn, 1) := by decide +kernel
theorem dX4_value_56 : decode cX4_value 56 = .ok (.iload_n 1, 1) := by decide +kernel
theorem dX4_value_57 : decode cX4_value 57 = .ok (.bipush 38, 2) := by decide +kernel
theorem dX4_value_59 : decode cX4_value 59 = .ok (.if_icmp .ne 18, 3) := by decide +kernel
theorem dX4_value_62 : decode cX4_value 62 = .ok (.aload_n 0, 1) := by decide +kernel
theorem dX4_value_63 : decode cX4_value 63 = .ok (.aload_n 0, 1) := by decide +kernel
theorem dX4_value_64 : decode cX4_value 64 = .ok (.getfield 59, 3) := by decide +kernel
theorem dX4_value_67 : decode cX4_value 67 = .ok (.putfield 136, 3) := by decide +kernel
theorem dX4_value_70 : decode cX4_value 70 = .ok (.aload_n 0, 1) := by decide +kernel
theorem dX4_value_71 : decode cX4_value 71 = .ok (.bipush 60, 2) := by decide +kernel
theorem dX4_value_73 : decode cX4_value 73 = .ok (.invokevirtual 82, 3) := by decide +kernel
theorem dX4_value_76 : decode cX4_value 76 = .ok (.ireturn, 1) := by decide +kernel
theorem dX4_value_77 : decode cX4_value 77 = .ok (.iload_n 1, 1) := by decide +kernel
theorem dX4_value_78 : decode cX4_value 78 = .ok (.bipush 60, 2) := by decide +kernel
theorem dX4_value_80 : decode cX4_value 80 = .ok (.if_icmp .eq 14, 3) := by decide +kernel
theorem dX4_value_83 : decode cX4_value 83 = .ok (.iload_n 1, 1) := by decide +kernel
theorem dX4_value_84 : decode cX4_value 84 = .ok (.invokestatic 139, 3) := by decide +kernel
theorem dX4_value_87 : decode cX4_value 87 = .ok (.ifCond .eq 7, 3) := by decide +kernel
theorem dX4_value_90 : decode cX4_value 90 = .ok (.iconst 0, 1) := by decide +kernel
theorem dX4_value_91 : decode cX4_value 91 = .ok (.goto 7, 3) := by decide +kernel
theorem dX4_value_94 : decode cX4_value 94 = .ok (.aload_n 0, 1) := by decide +kernel
theorem dX4_value_95 : decode cX4_value 95 = .ok (.invokevirtual 92, 3) := by decide +kernel
theorem dX4_value_98 : decode cX4_value 98 = .ok (.ireturn, 1) := by decide +kernel
theorem dX4_wrong_0 : decode cX4_wrong 0 = .ok (.aload_n 0, 1) := by decide +kernel
theorem dX4_wrong_1 : decode cX4_wrong 1 = .ok (.iconst 2, 1) := by decide +kernel
theorem dX4_wrong_2 : decode cX4_wrong 2 = .ok (.aload_n 0, 1) := by decide +kernel
theorem dX4_wrong_3 : decode cX4_wrong 3 = .ok (.getfield 59, 3) := by decide +kernel
theorem dX4_wrong_6 : decode cX4_wrong 6 = .ok (.invokevirtual 62, 3) := by decide +kernel
theorem dX4_wrong_9 : decode cX4_wrong 9 = .ok (.ireturn, 1) := by decide +kernel
