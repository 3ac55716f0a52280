theorem dX0_init_0 : decode cX0_init 0 = .ok (.aload_n 0, 1) := by decide +kernel
theorem dX0_init_1 : decode cX0_init 1 = .ok (.invokespecial 3, 3) := by decide +kernel
theorem dX0_init_4 : decode cX0_init 4 = .ok (.aload_n 0, 1) := by decide +kernel
theorem dX0_init_5 : decode cX0_init 5 = .ok (.sipush 242, 3) := by decide +kernel
theorem dX0_init_8 : decode cX0_init 8 = .ok (.newarray .byte, 2) := by decide +kernel
theorem dX0_init_10 : decode cX0_init 10 = .ok (.putfield 9, 3) := by decide +kernel
theorem dX0_init_13 : decode cX0_init 13 = .ok (.aload_n 0, 1) := by decide +kernel
theorem dX0_init_14 : decode cX0_init 14 = .ok (.iconst 0, 1) := by decide +kernel
theorem dX0_init_15 : decode cX0_init 15 = .ok (.putfield 15, 3) := by decide +kernel
theorem dX0_init_18 : decode cX0_init 18 = .ok (.return_, 1) := by decide +kernel
theorem dX0_append_0 : decode cX0_append 0 = .ok (.aload_n 0, 1) := by decide +kernel
theorem dX0_append_1 : decode cX0_append 1 = .ok (.getfield 15, 3) := by decide +kernel
theorem dX0_append_4 : decode cX0_append 4 = .ok (.aload_n 0, 1) := by decide +kernel
theorem dX0_append_5 : decode cX0_append 5 = .ok (.getfield 9, 3) := by decide +kernel
theorem dX0_append_8 : decode cX0_append 8 = .ok (.arraylength, 1) := by decide +kernel
theorem dX0_append_9 : decode cX0_append 9 = .ok (.if_icmp .ge 24, 3) := by decide +kernel
theorem dX0_append_12 : decode cX0_append 12 = .ok (.aload_n 0, 1) := by decide +kernel
theorem dX0_append_13 : decode cX0_append 13 = .ok (.getfield 9, 3) := by decide +kernel
theorem dX0_append_16 : decode cX0_append 16 = .ok (.aload_n 0, 1) := by decide +kernel
theorem dX0_append_17 : decode cX0_append 17 = .ok (.getfield 15, 3) := by decide +kernel
theorem dX0_append_20 : decode cX0_append 20 = .ok (.iload_n 1, 1) := by decide +kernel
theorem dX0_append_21 : decode cX0_append 21 = .ok (.i2b, 1) := by decide +kernel
theorem dX0_append_22 : decode cX0_append 22 = .ok (.bastore, 1) := by decide +kernel
theorem dX0_append_23 : decode cX0_append 23 = .ok (.aload_n 0, 1) := by decide +kernel
theorem dX0_append_24 : decode cX0_append 24 = .ok (.dup, 1) := by decide +kernel
theorem dX0_append_25 : decode cX0_append 25 = .ok (.getfield 15, 3) := by decide +kernel
theorem dX0_append_28 : decode cX0_append 28 = .ok (.iconst 1, 1) := by decide +kernel
theorem dX0_append_29 : decode cX0_append 29 = .ok (.iadd, 1) := by decide +kernel
theorem dX0_append_30 : decode cX0_append 30 = .ok (.putfield 15, 3) := by decide +kernel
theorem dX0_append_33 : decode cX0_append 33 = .ok (.return_, 1) := by decide +kernel
theorem dX0_appendFour_0 : decode cX0_appendFour 0 = .ok (.aload_n 0, 1) := by decide +kernel
theorem dX0_appendFour_1 : decode cX0_appendFour 1 = .ok (.iload_n 1, 1) := by decide +kernel
theorem dX0_appendFour_2 : decode cX0_appendFour 2 = .ok (.bipush 24, 2) := by decide +kernel
theorem dX0_appendFour_4 : decode cX0_appendFour 4 = .ok (.iushr, 1) := by decide +kernel
theorem dX0_appendFour_5 : decode cX0_appendFour 5 = .ok (.invokevirtual 19, 3) := by decide +kernel
theorem dX0_appendFour_8 : decode cX0_appendFour 8 = .ok (.aload_n 0, 1) := by decide +kernel
theorem dX0_appendFour_9 : decode cX0_appendFour 9 = .ok (.iload_n 1, 1) := by decide +kernel
theorem dX0_appendFour_10 : decode cX0_appendFour 10 = .ok (.bipush 16, 2) := by decide +kernel
theorem dX0_appendFour_12 : decode cX0_appendFour 12 = .ok (.iushr, 1) := by decide +kernel
theorem dX0_appendFour_13 : decode cX0_appendFour 13 = .ok (.invokevirtual 19, 3) := by decide +kernel
theorem dX0_appendFour_16 : decode cX0_appendFour 16 = .ok (.aload_n 0, 1) := by decide +kernel
theorem dX0_appendFour_17 : decode cX0_appendFour 17 = .ok (.iload_n 1, 1) := by decide +kernel
theorem dX0_appendFour_18 : decode cX0_appendFour 18 = .ok (.bipush 8, 2) := by decide +kernel
theorem dX0_appendFour_20 : decode cX0_appendFour 20 = .ok (.iushr, 1) := by decide +kernel
theorem dX0_appendFour_21 : decode cX0_appendFour 21 = .ok (.invokevirtual 19, 3) := by decide +kernel
theorem dX0_appendFour_24 : decode cX0_appendFour 24 = .ok (.aload_n 0, 1) := by decide +kernel
theorem dX0_appendFour_25 : decode cX0_appendFour 25 = .ok (.iload_n 1, 1) := by decide +kernel
theorem dX0_appendFour_26 : decode cX0_appendFour 26 = .ok (.invokevirtual 19, 3) := by decide +kernel
theorem dX0_appendFour_29 : decode cX0_appendFour 29 = .ok (.return_, 1) := by decide +kernel
theorem dX0_appendPair_0 : decode cX0_appendPair 0 = .ok (.aload_n 0, 1) := by decide +kernel
theorem dX0_appendPair_1 : decode cX0_appendPair 1 = .ok (.bipush 48, 2) := by decide +kernel
theorem dX0_appendPair_3 : decode cX0_appendPair 3 = .ok (.iload_n 1, 1) := by decide +kernel
theorem dX0_appendPair_4 : decode cX0_appendPair 4 = .ok (.bipush 10, 2) := by decide +kernel
theorem dX0_appendPair_6 : decode cX0_appendPair 6 = .ok (.idiv, 1) := by decide +kernel
theorem dX0_appendPair_7 : decode cX0_appendPair 7 = .ok (.iadd, 1) := by decide +kernel
theorem dX0_appendPair_8 : decode cX0_appendPair 8 = .ok (.invokevirtual 19, 3) := by decide +kernel
theorem dX0_appendPair_11 : decode cX0_appendPair 11 = .ok (.aload_n 0, 1) := by decide +kernel
theorem dX0_appendPair_12 : decode cX0_appendPair 12 = .ok (.bipush 48, 2) := by decide +kernel
theorem dX0_appendPair_14 : decode cX0_appendPair 14 = .ok (.iload_n 1, 1) := by decide +kernel
theorem dX0_appendPair_15 : decode cX0_appendPair 15 = .ok (.bipush 10, 2) := by decide +kernel
theorem dX0_appendPair_17 : decode cX0_appendPair 17 = .ok (.irem, 1) := by decide +kernel
theorem dX0_appendPair_18 : decode cX0_appendPair 18 = .ok (.iadd, 1) := by decide +kernel
theorem dX0_appendPair_19 : decode cX0_appendPair 19 = .ok (.invokevirtual 19, 3) := by decide +kernel
theorem dX0_appendPair_22 : decode cX0_appendPair 22 = .ok (.return_, 1) := by decide +kernel
theorem dX0_byteAt_0 : decode cX0_byteAt 0 = .ok (.iload_n 1, 1) := by decide +kernel
theorem dX0_byteAt_1 : decode cX0_byteAt 1 = .ok (.ifCond .lt 24, 3) := by decide +kernel
theorem dX0_byteAt_4 : decode cX0_byteAt 4 = .ok (.iload_n 1, 1) := by decide +kernel
theorem dX0_byteAt_5 : decode cX0_byteAt 5 = .ok (.aload_n 0, 1) := by decide +kernel
theorem dX0_byteAt_6 : decode cX0_byteAt 6 = .ok (.getfield 15, 3) := by decide +kernel
theorem dX0_byteAt_9 : decode cX0_byteAt 9 = .ok (.if_icmp .ge 16, 3) := by decide +kernel
theorem dX0_byteAt_12 : decode cX0_byteAt 12 = .ok (.aload_n 0, 1) := by decide +kernel
theorem dX0_byteAt_13 : decode cX0_byteAt 13 = .ok (.getfield 9, 3) := by decide +kernel
theorem dX0_byteAt_16 : decode cX0_byteAt 16 = .ok (.iload_n 1, 1) := by decide +kernel
theorem dX0_byteAt_17 : decode cX0_byteAt 17 = .ok (.baload, 1) := by decide +kernel
theorem dX0_byteAt_18 : decode cX0_byteAt 18 = .ok (.sipush 255, 3) := by decide +kernel
theorem dX0_byteAt_21 : decode cX0_byteAt 21 = .ok (.iand, 1) := by decide +kernel
theorem dX0_byteAt_22 : decode cX0_byteAt 22 = .ok (.goto 4, 3) := by decide +kernel
theorem dX0_byteAt_25 : decode cX0_byteAt 25 = .ok (.iconst (-1), 1) := by decide +kernel
theorem dX0_byteAt_26 : decode cX0_byteAt 26 = .ok (.ireturn, 1) := by decide +kernel
theorem dX0_digitAt_0 : decode cX0_digitAt 0 = .ok (.aload_n 0, 1) := by decide +kernel
theorem dX0_digitAt_1 : decode cX0_digitAt 1 = .ok (.iload_n 1, 1) := by decide +kernel
theorem dX0_digitAt_2 : decode cX0_digitAt 2 = .ok (.invokevirtual 23, 3) := by decide +kernel
theorem dX0_digitAt_5 : decode cX0_digitAt 5 = .ok (.istore_n 2, 1) := by decide +kernel
theorem dX0_digitAt_6 : decode cX0_digitAt 6 = .ok (.iload_n 2, 1) := by decide +kernel
theorem dX0_digitAt_7 : decode cX0_digitAt 7 = .ok (.bipush 48, 2) := by decide +kernel
theorem dX0_digitAt_9 : decode cX0_digitAt 9 = .ok (.if_icmp .lt 16, 3) := by decide +kernel
theorem dX0_digitAt_12 : decode cX0_digitAt 12 = .ok (.iload_n 2, 1) := by decide +kernel
theorem dX0_digitAt_13 : decode cX0_digitAt 13 = .ok (.bipush 57, 2) := by decide +kernel
theorem dX0_digitAt_15 : decode cX0_digitAt 15 = .ok (.if_icmp .gt 10, 3) := by decide +kernel
theorem dX0_digitAt_18 : decode cX0_digitAt 18 = .ok (.iload_n 2, 1) := by decide +kernel
theorem dX0_digitAt_19 : decode cX0_digitAt 19 = .ok (.bipush 48, 2) := by decide +kernel
theorem dX0_digitAt_21 : decode cX0_digitAt 21 = .ok (.isub, 1) := by decide +kernel
theorem dX0_digitAt_22 : decode cX0_digitAt 22 = .ok (.goto 4, 3) := by decide +kernel
theorem dX0_digitAt_25 : decode cX0_digitAt 25 = .ok (.iconst (-1), 1) := by decide +kernel
theorem dX0_digitAt_26 : decode cX0_digitAt 26 = .ok (.ireturn, 1) := by decide +kernel
theorem dX1_init_0 : decode cX1_init 0 = .ok (.aload_n 0, 1) := by decide +kernel
theorem dX1_init_1 : decode cX1_init 1 = .ok (.invokespecial 3, 3) := by decide +kernel
theorem dX1_init_4 : decode cX1_init 4 = .ok (.aload_n 0, 1) := by decide +kernel
theorem dX1_init_5 : decode cX1_init 5 = .ok (.bipush 40, 2) := by decide +kernel
theorem dX1_init_7 : decode cX1_init 7 = .ok (.newarray .long, 2) := by decide +kernel
theorem dX1_init_9 : decode cX1_init 9 = .ok (.putfield 9, 3) := by decide +kernel
theorem dX1_init_12 : decode cX1_init 12 = .ok (.aload_n 0, 1) := by decide +kernel
theorem dX1_init_13 : decode cX1_init 13 = .ok (.bipush 40, 2) := by decide +kernel
theorem dX1_init_15 : decode cX1_init 15 = .ok (.newarray .int, 2) := by decide +kernel
theorem dX1_init_17 : decode cX1_init 17 = .ok (.putfield 15, 3) := by decide +kernel
theorem dX1_init_20 : decode cX1_init 20 = .ok (.aload_n 0, 1) := by decide +kernel
theorem dX1_init_21 : decode cX1_init 21 = .ok (.sipush 9680, 3) := by decide +kernel
theorem dX1_init_24 : decode cX1_init 24 = .ok (.newarray .byte, 2) := by decide +kernel
theorem dX1_init_26 : decode cX1_init 26 = .ok (.putfield 19, 3) := by decide +kernel
theorem dX1_init_29 : decode cX1_init 29 = .ok (.aload_n 0, 1) := by decide +kernel
theorem dX1_init_30 : decode cX1_init 30 = .ok (.bipush 40, 2) := by decide +kernel
theorem dX1_init_32 : decode cX1_init 32 = .ok (.newarray .int, 2) := by decide +kernel
theorem dX1_init_34 : decode cX1_init 34 = .ok (.putfield 23, 3) := by decide +kernel
theorem dX1_init_37 : decode cX1_init 37 = .ok (.aload_n 0, 1) := by decide +kernel
theorem dX1_init_38 : decode cX1_init 38 = .ok (.iconst 0, 1) := by decide +kernel
theorem dX1_init_39 : decode cX1_init 39 = .ok (.putfield 26, 3) := by decide +kernel
theorem dX1_init_42 : decode cX1_init 42 = .ok (.return_, 1) := by decide +kernel
theorem dX1_add_0 : decode cX1_add 0 = .ok (.aload_n 0, 1) := by decide +kernel
theorem dX1_add_1 : decode cX1_add 1 = .ok (.getfield 26, 3) := by decide +kernel
theorem dX1_add_4 : decode cX1_add 4 = .ok (.bipush 40, 2) := by decide +kernel
theorem dX1_add_6 : decode cX1_add 6 = .ok (.if_icmp .lt 5, 3) := by decide +kernel
theorem dX1_add_9 : decode cX1_add 9 = .ok (.iconst (-1), 1) := by decide +kernel
theorem dX1_add_10 : decode cX1_add 10 = .ok (.ireturn, 1) := by decide +kernel
theorem dX1_add_11 : decode cX1_add 11 = .ok (.aload_n 0, 1) := by decide +kernel
theorem dX1_add_12 : decode cX1_add 12 = .ok (.getfield 26, 3) := by decide +kernel
theorem dX1_add_15 : decode cX1_add 15 = .ok (.istore_n 2, 1) := by decide +kernel
theorem dX1_add_16 : decode cX1_add 16 = .ok (.aload_n 0, 1) := by decide +kernel
theorem dX1_add_17 : decode cX1_add 17 = .ok (.getfield 9, 3) := by decide +kernel
theorem dX1_add_20 : decode cX1_add 20 = .ok (.iload_n 2, 1) := by decide +kernel
theorem dX1_add_21 : decode cX1_add 21 = .ok (.aload_n 1, 1) := by decide +kernel
theorem dX1_add_22 : decode cX1_add 22 = .ok (.invokevirtual 30, 3) := by decide +kernel
theorem dX1_add_25 : decode cX1_add 25 = .ok (.lastore, 1) := by decide +kernel
theorem dX1_add_26 : decode cX1_add 26 = .ok (.aload_n 0, 1) := by decide +kernel
theorem dX1_add_27 : decode cX1_add 27 = .ok (.getfield 15, 3) := by decide +kernel
theorem dX1_add_30 : decode cX1_add 30 = .ok (.iload_n 2, 1) := by decide +kernel
theorem dX1_add_31 : decode cX1_add 31 = .ok (.aload_n 1, 1) := by decide +kernel
theorem dX1_add_32 : decode cX1_add 32 = .ok (.getfield 35, 3) := by decide +kernel
theorem dX1_add_35 : decode cX1_add 35 = .ok (.iastore, 1) := by decide +kernel
theorem dX1_add_36 : decode cX1_add 36 = .ok (.aload_n 1, 1) := by decide +kernel
theorem dX1_add_37 : decode cX1_add 37 = .ok (.getfield 38, 3) := by decide +kernel
theorem dX1_add_40 : decode cX1_add 40 = .ok (.iconst 0, 1) := by decide +kernel
theorem dX1_add_41 : decode cX1_add 41 = .ok (.aload_n 0, 1) := by decide +kernel
theorem dX1_add_42 : decode cX1_add 42 = .ok (.getfield 19, 3) := by decide +kernel
theorem dX1_add_45 : decode cX1_add 45 = .ok (.iload_n 2, 1) := by decide +kernel
theorem dX1_add_46 : decode cX1_add 46 = .ok (.sipush 242, 3) := by decide +kernel
theorem dX1_add_49 : decode cX1_add 49 = .ok (.imul, 1) := by decide +kernel
theorem dX1_add_50 : decode cX1_add 50 = .ok (.aload_n 1, 1) := by decide +kernel
theorem dX1_add_51 : decode cX1_add 51 = .ok (.getfield 35, 3) := by decide +kernel
theorem dX1_add_54 : decode cX1_add 54 = .ok (.invokestatic 41, 3) := by decide +kernel
theorem dX1_add_57 : decode cX1_add 57 = .ok (.aload_n 0, 1) := by decide +kernel
theorem dX1_add_58 : decode cX1_add 58 = .ok (.getfield 26, 3) := by decide +kernel
theorem dX1_add_61 : decode cX1_add 61 = .ok (.istore_n 3, 1) := by decide +kernel
theorem dX1_add_62 : decode cX1_add 62 = .ok (.iload_n 3, 1) := by decide +kernel
theorem dX1_add_63 : decode cX1_add 63 = .ok (.ifCond .le 39, 3) := by decide +kernel
theorem dX1_add_66 : decode cX1_add 66 = .ok (.aload_n 0, 1) := by decide +kernel
theorem dX1_add_67 : decode cX1_add 67 = .ok (.iload_n 2, 1) := by decide +kernel
theorem dX1_add_68 : decode cX1_add 68 = .ok (.aload_n 0, 1) := by decide +kernel
theorem dX1_add_69 : decode cX1_add 69 = .ok (.getfield 23, 3) := by decide +kernel
theorem dX1_add_72 : decode cX1_add 72 = .ok (.iload_n 3, 1) := by decide +kernel
theorem dX1_add_73 : decode cX1_add 73 = .ok (.iconst 1, 1) := by decide +kernel
theorem dX1_add_74 : decode cX1_add 74 = .ok (.isub, 1) := by decide +kernel
theorem dX1_add_75 : decode cX1_add 75 = .ok (.iaload, 1) := by decide +kernel
theorem dX1_add_76 : decode cX1_add 76 = .ok (.invokevirtual 47, 3) := by decide +kernel
theorem dX1_add_79 : decode cX1_add 79 = .ok (.ifCond .eq 23, 3) := by decide +kernel
theorem dX1_add_82 : decode cX1_add 82 = .ok (.aload_n 0, 1) := by decide +kernel
theorem dX1_add_83 : decode cX1_add 83 = .ok (.getfield 23, 3) := by decide +kernel
theorem dX1_add_86 : decode cX1_add 86 = .ok (.iload_n 3, 1) := by decide +kernel
theorem dX1_add_87 : decode cX1_add 87 = .ok (.aload_n 0, 1) := by decide +kernel
theorem dX1_add_88 : decode cX1_add 88 = .ok (.getfield 23, 3) := by decide +kernel
theorem dX1_add_91 : decode cX1_add 91 = .ok (.iload_n 3, 1) := by decide +kernel
theorem dX1_add_92 : decode cX1_add 92 = .ok (.iconst 1, 1) := by decide +kernel
theorem dX1_add_93 : decode cX1_add 93 = .ok (.isub, 1) := by decide +kernel
theorem dX1_add_94 : decode cX1_add 94 = .ok (.iaload, 1) := by decide +kernel
theorem dX1_add_95 : decode cX1_add 95 = .ok (.iastore, 1) := by decide +kernel
theorem dX1_add_96 : decode cX1_add 96 = .ok (.iinc 3 (-1), 3) := by decide +kernel
theorem dX1_add_99 : decode cX1_add 99 = .ok (.goto (-37), 3) := by decide +kernel
theorem dX1_add_102 : decode cX1_add 102 = .ok (.aload_n 0, 1) := by decide +kernel
theorem dX1_add_103 : decode cX1_add 103 = .ok (.getfield 23, 3) := by decide +kernel
theorem dX1_add_106 : decode cX1_add 106 = .ok (.iload_n 3, 1) := by decide +kernel
theorem dX1_add_107 : decode cX1_add 107 = .ok (.iload_n 2, 1) := by decide +kernel
theorem dX1_add_108 : decode cX1_add 108 = .ok (.iastore, 1) := by decide +kernel
theorem dX1_add_109 : decode cX1_add 109 = .ok (.aload_n 0, 1) := by decide +kernel
theorem dX1_add_110 : decode cX1_add 110 = .ok (.dup, 1) := by decide +kernel
theorem dX1_add_111 : decode cX1_add 111 = .ok (.getfield 26, 3) := by decide +kernel
theorem dX1_add_114 : decode cX1_add 114 = .ok (.iconst 1, 1) := by decide +kernel
theorem dX1_add_115 : decode cX1_add 115 = .ok (.iadd, 1) := by decide +kernel
theorem dX1_add_116 : decode cX1_add 116 = .ok (.putfield 26, 3) := by decide +kernel
theorem dX1_add_119 : decode cX1_add 119 = .ok (.iload_n 2, 1) := by decide +kernel
theorem dX1_add_120 : decode cX1_add 120 = .ok (.ireturn, 1) := by decide +kernel
theorem dX1_has_0 : decode cX1_has 0 = .ok (.iload_n 1, 1) := by decide +kernel
theorem dX1_has_1 : decode cX1_has 1 = .ok (.ifCond .lt 15, 3) := by decide +kernel
theorem dX1_has_4 : decode cX1_has 4 = .ok (.iload_n 1, 1) := by decide +kernel
theorem dX1_has_5 : decode cX1_has 5 = .ok (.aload_n 0, 1) := by decide +kernel
theorem dX1_has_6 : decode cX1_has 6 = .ok (.getfield 26, 3) := by decide +kernel
theorem dX1_has_9 : decode cX1_has 9 = .ok (.if_icmp .ge 7, 3) := by decide +kernel
theorem dX1_has_12 : decode cX1_has 12 = .ok (.iconst 1, 1) := by decide +kernel
theorem dX1_has_13 : decode cX1_has 13 = .ok (.goto 4, 3) := by decide +kernel
theorem dX1_has_16 : decode cX1_has 16 = .ok (.iconst 0, 1) := by decide +kernel
theorem dX1_has_17 : decode cX1_has 17 = .ok (.ireturn, 1) := by decide +kernel
theorem dX1_isBefore_0 : decode cX1_isBefore 0 = .ok (.aload_n 0, 1) := by decide +kernel
theorem dX1_isBefore_1 : decode cX1_isBefore 1 = .ok (.getfield 9, 3) := by decide +kernel
theorem dX1_isBefore_4 : decode cX1_isBefore 4 = .ok (.iload_n 1, 1) := by decide +kernel
theorem dX1_isBefore_5 : decode cX1_isBefore 5 = .ok (.laload, 1) := by decide +kernel
theorem dX1_isBefore_6 : decode cX1_isBefore 6 = .ok (.aload_n 0, 1) := by decide +kernel
theorem dX1_isBefore_7 : decode cX1_isBefore 7 = .ok (.getfield 9, 3) := by decide +kernel
theorem dX1_isBefore_10 : decode cX1_isBefore 10 = .ok (.iload_n 2, 1) := by decide +kernel
theorem dX1_isBefore_11 : decode cX1_isBefore 11 = .ok (.laload, 1) := by decide +kernel
theorem dX1_isBefore_12 : decode cX1_isBefore 12 = .ok (.lcmp, 1) := by decide +kernel
theorem dX1_isBefore_13 : decode cX1_isBefore 13 = .ok (.ifCond .eq 25, 3) := by decide +kernel
theorem dX1_isBefore_16 : decode cX1_isBefore 16 = .ok (.aload_n 0, 1) := by decide +kernel
theorem dX1_isBefore_17 : decode cX1_isBefore 17 = .ok (.getfield 9, 3) := by decide +kernel
theorem dX1_isBefore_20 : decode cX1_isBefore 20 = .ok (.iload_n 1, 1) := by decide +kernel
theorem dX1_isBefore_21 : decode cX1_isBefore 21 = .ok (.laload, 1) := by decide +kernel
theorem dX1_isBefore_22 : decode cX1_isBefore 22 = .ok (.aload_n 0, 1) := by decide +kernel
theorem dX1_isBefore_23 : decode cX1_isBefore 23 = .ok (.getfield 9, 3) := by decide +kernel
theorem dX1_isBefore_26 : decode cX1_isBefore 26 = .ok (.iload_n 2, 1) := by decide +kernel
theorem dX1_isBefore_27 : decode cX1_isBefore 27 = .ok (.laload, 1) := by decide +kernel
theorem dX1_isBefore_28 : decode cX1_isBefore 28 = .ok (.lcmp, 1) := by decide +kernel
theorem dX1_isBefore_29 : decode cX1_isBefore 29 = .ok (.ifCond .ge 7, 3) := by decide +kernel
theorem dX1_isBefore_32 : decode cX1_isBefore 32 = .ok (.iconst 1, 1) := by decide +kernel
theorem dX1_isBefore_33 : decode cX1_isBefore 33 = .ok (.goto 4, 3) := by decide +kernel
theorem dX1_isBefore_36 : decode cX1_isBefore 36 = .ok (.iconst 0, 1) := by decide +kernel
theorem dX1_isBefore_37 : decode cX1_isBefore 37 = .ok (.ireturn, 1) := by decide +kernel
theorem dX1_isBefore_38 : decode cX1_isBefore 38 = .ok (.aload_n 0, 1) := by decide +kernel
theorem dX1_isBefore_39 : decode cX1_isBefore 39 = .ok (.getfield 15, 3) := by decide +kernel
theorem dX1_isBefore_42 : decode cX1_isBefore 42 = .ok (.iload_n 1, 1) := by decide +kernel
theorem dX1_isBefore_43 : decode cX1_isBefore 43 = .ok (.iaload, 1) := by decide +kernel
theorem dX1_isBefore_44 : decode cX1_isBefore 44 = .ok (.aload_n 0, 1) := by decide +kernel
theorem dX1_isBefore_45 : decode cX1_isBefore 45 = .ok (.getfield 15, 3) := by decide +kernel
theorem dX1_isBefore_48 : decode cX1_isBefore 48 = .ok (.iload_n 2, 1) := by decide +kernel
theorem dX1_isBefore_49 : decode cX1_isBefore 49 = .ok (.iaload, 1) := by decide +kernel
theorem dX1_isBefore_50 : decode cX1_isBefore 50 = .ok (.invokestatic 51, 3) := by decide +kernel
theorem dX1_isBefore_53 : decode cX1_isBefore 53 = .ok (.istore_n 3, 1) := by decide +kernel
theorem dX1_isBefore_54 : decode cX1_isBefore 54 = .ok (.iconst 0, 1) := by decide +kernel
theorem dX1_isBefore_55 : decode cX1_isBefore 55 = .ok (.istore 4, 2) := by decide +kernel
theorem dX1_isBefore_57 : decode cX1_isBefore 57 = .ok (.iload 4, 2) := by decide +kernel
theorem dX1_isBefore_59 : decode cX1_isBefore 59 = .ok (.iload_n 3, 1) := by decide +kernel
theorem dX1_isBefore_60 : decode cX1_isBefore 60 = .ok (.if_icmp .ge 59, 3) := by decide +kernel
theorem dX1_isBefore_63 : decode cX1_isBefore 63 = .ok (.aload_n 0, 1) := by decide +kernel
theorem dX1_isBefore_64 : decode cX1_isBefore 64 = .ok (.getfield 19, 3) := by decide +kernel
theorem dX1_isBefore_67 : decode cX1_isBefore 67 = .ok (.iload_n 1, 1) := by decide +kernel
theorem dX1_isBefore_68 : decode cX1_isBefore 68 = .ok (.sipush 242, 3) := by decide +kernel
theorem dX1_isBefore_71 : decode cX1_isBefore 71 = .ok (.imul, 1) := by decide +kernel
theorem dX1_isBefore_72 : decode cX1_isBefore 72 = .ok (.iload 4, 2) := by decide +kernel
theorem dX1_isBefore_74 : decode cX1_isBefore 74 = .ok (.iadd, 1) := by decide +kernel
theorem dX1_isBefore_75 : decode cX1_isBefore 75 = .ok (.baload, 1) := by decide +kernel
theorem dX1_isBefore_76 : decode cX1_isBefore 76 = .ok (.istore 5, 2) := by decide +kernel
theorem dX1_isBefore_78 : decode cX1_isBefore 78 = .ok (.aload_n 0, 1) := by decide +kernel
theorem dX1_isBefore_79 : decode cX1_isBefore 79 = .ok (.getfield 19, 3) := by decide +kernel
theorem dX1_isBefore_82 : decode cX1_isBefore 82 = .ok (.iload_n 2, 1) := by decide +kernel
theorem dX1_isBefore_83 : decode cX1_isBefore 83 = .ok (.sipush 242, 3) := by decide +kernel
theorem dX1_isBefore_86 : decode cX1_isBefore 86 = .ok (.imul, 1) := by decide +kernel
theorem dX1_isBefore_87 : decode cX1_isBefore 87 = .ok (.iload 4, 2) := by decide +kernel
theorem dX1_isBefore_89 : decode cX1_isBefore 89 = .ok (.iadd, 1) := by decide +kernel
theorem dX1_isBefore_90 : decode cX1_isBefore 90 = .ok (.baload, 1) := by decide +kernel
theorem dX1_isBefore_91 : decode cX1_isBefore 91 = .ok (.istore 6, 2) := by decide +kernel
theorem dX1_isBefore_93 : decode cX1_isBefore 93 = .ok (.iload 5, 2) := by decide +kernel
theorem dX1_isBefore_95 : decode cX1_isBefore 95 = .ok (.iload 6, 2) := by decide +kernel
theorem dX1_isBefore_97 : decode cX1_isBefore 97 = .ok (.if_icmp .eq 16, 3) := by decide +kernel
theorem dX1_isBefore_100 : decode cX1_isBefore 100 = .ok (.iload 5, 2) := by decide +kernel
theorem dX1_isBefore_102 : decode cX1_isBefore 102 = .ok (.iload 6, 2) := by decide +kernel
theorem dX1_isBefore_104 : decode cX1_isBefore 104 = .ok (.if_icmp .ge 7, 3) := by decide +kernel
theorem dX1_isBefore_107 : decode cX1_isBefore 107 = .ok (.iconst 1, 1) := by decide +kernel
theorem dX1_isBefore_108 : decode cX1_isBefore 108 = .ok (.goto 4, 3) := by decide +kernel
theorem dX1_isBefore_111 : decode cX1_isBefore 111 = .ok (.iconst 0, 1) := by decide +kernel
theorem dX1_isBefore_112 : decode cX1_isBefore 112 = .ok (.ireturn, 1) := by decide +kernel
theorem dX1_isBefore_113 : decode cX1_isBefore 113 = .ok (.iinc 4 1, 3) := by decide +kernel
theorem dX1_isBefore_116 : decode cX1_isBefore 116 = .ok (.goto (-59), 3) := by decide +kernel
theorem dX1_isBefore_119 : decode cX1_isBefore 119 = .ok (.aload_n 0, 1) := by decide +kernel
theorem dX1_isBefore_120 : decode cX1_isBefore 120 = .ok (.getfield 15, 3) := by decide +kernel
theorem dX1_isBefore_123 : decode cX1_isBefore 123 = .ok (.iload_n 1, 1) := by decide +kernel
theorem dX1_isBefore_124 : decode cX1_isBefore 124 = .ok (.iaload, 1) := by decide +kernel
theorem dX1_isBefore_125 : decode cX1_isBefore 125 = .ok (.aload_n 0, 1) := by decide +kernel
theorem dX1_isBefore_126 : decode cX1_isBefore 126 = .ok (.getfield 15, 3) := by decide +kernel
theorem dX1_isBefore_129 : decode cX1_isBefore 129 = .ok (.iload_n 2, 1) := by decide +kernel
theorem dX1_isBefore_130 : decode cX1_isBefore 130 = .ok (.iaload, 1) := by decide +kernel
theorem dX1_isBefore_131 : decode cX1_isBefore 131 = .ok (.if_icmp .ge 7, 3) := by decide +kernel
theorem dX1_isBefore_134 : decode cX1_isBefore 134 = .ok (.iconst 1, 1) := by decide +kernel
theorem dX1_isBefore_135 : decode cX1_isBefore 135 = .ok (.goto 4, 3) := by decide +kernel
theorem dX1_isBefore_138 : decode cX1_isBefore 138 = .ok (.iconst 0, 1) := by decide +kernel
theorem dX1_isBefore_139 : decode cX1_isBefore 139 = .ok (.ireturn, 1) := by decide +kernel
theorem dX2_init_0 : decode cX2_init 0 = .ok (.aload_n 0, 1) := by decide +kernel
theorem dX2_init_1 : decode cX2_init 1 = .ok (.invokespecial 3, 3) := by decide +kernel
theorem dX2_init_4 : decode cX2_init 4 = .ok (.aload_n 0, 1) := by decide +kernel
theorem dX2_init_5 : decode cX2_init 5 = .ok (.sipush 242, 3) := by decide +kernel
theorem dX2_init_8 : decode cX2_init 8 = .ok (.newarray .byte, 2) := by decide +kernel
theorem dX2_init_10 : decode cX2_init 10 = .ok (.putfield 9, 3) := by decide +kernel
theorem dX2_init_13 : decode cX2_init 13 = .ok (.return_, 1) := by decide +kernel
theorem dX2_appendPartDigit_0 : decode cX2_appendPartDigit 0 = .ok (.aload_n 0, 1) := by decide +kernel
theorem dX2_appendPartDigit_1 : decode cX2_appendPartDigit 1 = .ok (.getfield 22, 3) := by decide +kernel
theorem dX2_appendPartDigit_4 : decode cX2_appendPartDigit 4 = .ok (.aload_n 0, 1) := by decide +kernel
theorem dX2_appendPartDigit_5 : decode cX2_appendPartDigit 5 = .ok (.getfield 9, 3) := by decide +kernel
theorem dX2_appendPartDigit_8 : decode cX2_appendPartDigit 8 = .ok (.arraylength, 1) := by decide +kernel
theorem dX2_appendPartDigit_9 : decode cX2_appendPartDigit 9 = .ok (.if_icmp .ge 24, 3) := by decide +kernel
theorem dX2_appendPartDigit_12 : decode cX2_appendPartDigit 12 = .ok (.aload_n 0, 1) := by decide +kernel
theorem dX2_appendPartDigit_13 : decode cX2_appendPartDigit 13 = .ok (.getfield 9, 3) := by decide +kernel
theorem dX2_appendPartDigit_16 : decode cX2_appendPartDigit 16 = .ok (.aload_n 0, 1) := by decide +kernel
theorem dX2_appendPartDigit_17 : decode cX2_appendPartDigit 17 = .ok (.getfield 22, 3) := by decide +kernel
theorem dX2_appendPartDigit_20 : decode cX2_appendPartDigit 20 = .ok (.iload_n 1, 1) := by decide +kernel
theorem dX2_appendPartDigit_21 : decode cX2_appendPartDigit 21 = .ok (.i2b, 1) := by decide +kernel
theorem dX2_appendPartDigit_22 : decode cX2_appendPartDigit 22 = .ok (.bastore, 1) := by decide +kernel
theorem dX2_appendPartDigit_23 : decode cX2_appendPartDigit 23 = .ok (.aload_n 0, 1) := by decide +kernel
theorem dX2_appendPartDigit_24 : decode cX2_appendPartDigit 24 = .ok (.dup, 1) := by decide +kernel
theorem dX2_appendPartDigit_25 : decode cX2_appendPartDigit 25 = .ok (.getfield 22, 3) := by decide +kernel
theorem dX2_appendPartDigit_28 : decode cX2_appendPartDigit 28 = .ok (.iconst 1, 1) := by decide +kernel
theorem dX2_appendPartDigit_29 : decode cX2_appendPartDigit 29 = .ok (.iadd, 1) := by decide +kernel
theorem dX2_appendPartDigit_30 : decode cX2_appendPartDigit 30 = .ok (.putfield 22, 3) := by decide +kernel
theorem dX2_appendPartDigit_33 : decode cX2_appendPartDigit 33 = .ok (.return_, 1) := by decide +kernel
theorem dX2_clearOptional_0 : decode cX2_clearOptional 0 = .ok (.aload_n 0, 1) := by decide +kernel
theorem dX2_clearOptional_1 : decode cX2_clearOptional 1 = .ok (.iconst 0, 1) := by decide +kernel
theorem dX2_clearOptional_2 : decode cX2_clearOptional 2 = .ok (.putfield 15, 3) := by decide +kernel
theorem dX2_clearOptional_5 : decode cX2_clearOptional 5 = .ok (.aload_n 0, 1) := by decide +kernel
theorem dX2_clearOptional_6 : decode cX2_clearOptional 6 = .ok (.iconst 0, 1) := by decide +kernel
theorem dX2_clearOptional_7 : decode cX2_clearOptional 7 = .ok (.putfield 19, 3) := by decide +kernel
theorem dX2_clearOptional_10 : decode cX2_clearOptional 10 = .ok (.aload_n 0, 1) := by decide +kernel
theorem dX2_clearOptional_11 : decode cX2_clearOptional 11 = .ok (.iconst 0, 1) := by decide +kernel
theorem dX2_clearOptional_12 : decode cX2_clearOptional 12 = .ok (.putfield 22, 3) := by decide +kernel
theorem dX2_clearOptional_15 : decode cX2_clearOptional 15 = .ok (.return_, 1) := by decide +kernel
theorem dX2_dayNumber_0 : decode cX2_dayNumber 0 = .ok (.aload_n 0, 1) := by decide +kernel
theorem dX2_dayNumber_1 : decode cX2_dayNumber 1 = .ok (.getfield 44, 3) := by decide +kernel
theorem dX2_dayNumber_4 : decode cX2_dayNumber 4 = .ok (.iconst 3, 1) := by decide +kernel
theorem dX2_dayNumber_5 : decode cX2_dayNumber 5 = .ok (.iadd, 1) := by decide +kernel
theorem dX2_dayNumber_6 : decode cX2_dayNumber 6 = .ok (.iconst 4, 1) := by decide +kernel
theorem dX2_dayNumber_7 : decode cX2_dayNumber 7 = .ok (.idiv, 1) := by decide +kernel
theorem dX2_dayNumber_8 : decode cX2_dayNumber 8 = .ok (.aload_n 0, 1) := by decide +kernel
theorem dX2_dayNumber_9 : decode cX2_dayNumber 9 = .ok (.getfield 44, 3) := by decide +kernel
theorem dX2_dayNumber_12 : decode cX2_dayNumber 12 = .ok (.bipush 99, 2) := by decide +kernel
theorem dX2_dayNumber_14 : decode cX2_dayNumber 14 = .ok (.iadd, 1) := by decide +kernel
theorem dX2_dayNumber_15 : decode cX2_dayNumber 15 = .ok (.bipush 100, 2) := by decide +kernel
theorem dX2_dayNumber_17 : decode cX2_dayNumber 17 = .ok (.idiv, 1) := by decide +kernel
theorem dX2_dayNumber_18 : decode cX2_dayNumber 18 = .ok (.isub, 1) := by decide +kernel
theorem dX2_dayNumber_19 : decode cX2_dayNumber 19 = .ok (.aload_n 0, 1) := by decide +kernel
theorem dX2_dayNumber_20 : decode cX2_dayNumber 20 = .ok (.getfield 44, 3) := by decide +kernel
theorem dX2_dayNumber_23 : decode cX2_dayNumber 23 = .ok (.sipush 399, 3) := by decide +kernel
theorem dX2_dayNumber_26 : decode cX2_dayNumber 26 = .ok (.iadd, 1) := by decide +kernel
theorem dX2_dayNumber_27 : decode cX2_dayNumber 27 = .ok (.sipush 400, 3) := by decide +kernel
theorem dX2_dayNumber_30 : decode cX2_dayNumber 30 = .ok (.idiv, 1) := by decide +kernel
theorem dX2_dayNumber_31 : decode cX2_dayNumber 31 = .ok (.iadd, 1) := by decide +kernel
theorem dX2_dayNumber_32 : decode cX2_dayNumber 32 = .ok (.istore_n 1, 1) := by decide +kernel
theorem dX2_dayNumber_33 : decode cX2_dayNumber 33 = .ok (.aload_n 0, 1) := by decide +kernel
theorem dX2_dayNumber_34 : decode cX2_dayNumber 34 = .ok (.getfield 44, 3) := by decide +kernel
theorem dX2_dayNumber_37 : decode cX2_dayNumber 37 = .ok (.sipush 365, 3) := by decide +kernel
theorem dX2_dayNumber_40 : decode cX2_dayNumber 40 = .ok (.imul, 1) := by decide +kernel
theorem dX2_dayNumber_41 : decode cX2_dayNumber 41 = .ok (.iload_n 1, 1) := by decide +kernel
theorem dX2_dayNumber_42 : decode cX2_dayNumber 42 = .ok (.iadd, 1) := by decide +kernel
theorem dX2_dayNumber_43 : decode cX2_dayNumber 43 = .ok (.aload_n 0, 1) := by decide +kernel
theorem dX2_dayNumber_44 : decode cX2_dayNumber 44 = .ok (.getfield 38, 3) := by decide +kernel
theorem dX2_dayNumber_47 : decode cX2_dayNumber 47 = .ok (.iadd, 1) := by decide +kernel
theorem dX2_dayNumber_48 : decode cX2_dayNumber 48 = .ok (.iconst 1, 1) := by decide +kernel
theorem dX2_dayNumber_49 : decode cX2_dayNumber 49 = .ok (.isub, 1) := by decide +kernel
theorem dX2_dayNumber_50 : decode cX2_dayNumber 50 = .ok (.istore_n 2, 1) := by decide +kernel
theorem dX2_dayNumber_51 : decode cX2_dayNumber 51 = .ok (.aload_n 0, 1) := by decide +kernel
theorem dX2_dayNumber_52 : decode cX2_dayNumber 52 = .ok (.getfield 41, 3) := by decide +kernel
theorem dX2_dayNumber_55 : decode cX2_dayNumber 55 = .ok (.iconst 1, 1) := by decide +kernel
theorem dX2_dayNumber_56 : decode cX2_dayNumber 56 = .ok (.if_icmp .lt 25, 3) := by decide +kernel
theorem dX2_dayNumber_59 : decode cX2_dayNumber 59 = .ok (.aload_n 0, 1) := by decide +kernel
theorem dX2_dayNumber_60 : decode cX2_dayNumber 60 = .ok (.getfield 41, 3) := by decide +kernel
theorem dX2_dayNumber_63 : decode cX2_dayNumber 63 = .ok (.bipush 12, 2) := by decide +kernel
theorem dX2_dayNumber_65 : decode cX2_dayNumber 65 = .ok (.if_icmp .gt 16, 3) := by decide +kernel
theorem dX2_dayNumber_68 : decode cX2_dayNumber 68 = .ok (.iload_n 2, 1) := by decide +kernel
theorem dX2_dayNumber_69 : decode cX2_dayNumber 69 = .ok (.getstatic 51, 3) := by decide +kernel
theorem dX2_dayNumber_72 : decode cX2_dayNumber 72 = .ok (.aload_n 0, 1) := by decide +kernel
theorem dX2_dayNumber_73 : decode cX2_dayNumber 73 = .ok (.getfield 41, 3) := by decide +kernel
theorem dX2_dayNumber_76 : decode cX2_dayNumber 76 = .ok (.iconst 1, 1) := by decide +kernel
theorem dX2_dayNumber_77 : decode cX2_dayNumber 77 = .ok (.isub, 1) := by decide +kernel
theorem dX2_dayNumber_78 : decode cX2_dayNumber 78 = .ok (.iaload, 1) := by decide +kernel
theorem dX2_dayNumber_79 : decode cX2_dayNumber 79 = .ok (.iadd, 1) := by decide +kernel
theorem dX2_dayNumber_80 : decode cX2_dayNumber 80 = .ok (.istore_n 2, 1) := by decide +kernel
theorem dX2_dayNumber_81 : decode cX2_dayNumber 81 = .ok (.aload_n 0, 1) := by decide +kernel
theorem dX2_dayNumber_82 : decode cX2_dayNumber 82 = .ok (.getfield 41, 3) := by decide +kernel
theorem dX2_dayNumber_85 : decode cX2_dayNumber 85 = .ok (.iconst 2, 1) := by decide +kernel
theorem dX2_dayNumber_86 : decode cX2_dayNumber 86 = .ok (.if_icmp .le 19, 3) := by decide +kernel
theorem dX2_dayNumber_89 : decode cX2_dayNumber 89 = .ok (.aload_n 0, 1) := by decide +kernel
theorem dX2_dayNumber_90 : decode cX2_dayNumber 90 = .ok (.getfield 44, 3) := by decide +kernel
theorem dX2_dayNumber_93 : decode cX2_dayNumber 93 = .ok (.invokestatic 55, 3) := by decide +kernel
theorem dX2_dayNumber_96 : decode cX2_dayNumber 96 = .ok (.ifCond .eq 9, 3) := by decide +kernel
theorem dX2_dayNumber_99 : decode cX2_dayNumber 99 = .ok (.iload_n 2, 1) := by decide +kernel
theorem dX2_dayNumber_100 : decode cX2_dayNumber 100 = .ok (.iconst 1, 1) := by decide +kernel
theorem dX2_dayNumber_101 : decode cX2_dayNumber 101 = .ok (.iadd, 1) := by decide +kernel
theorem dX2_dayNumber_102 : decode cX2_dayNumber 102 = .ok (.goto 4, 3) := by decide +kernel
theorem dX2_dayNumber_105 : decode cX2_dayNumber 105 = .ok (.iload_n 2, 1) := by decide +kernel
theorem dX2_dayNumber_106 : decode cX2_dayNumber 106 = .ok (.ireturn, 1) := by decide +kernel
theorem dX2_dayOfWeek_0 : decode cX2_dayOfWeek 0 = .ok (.aload_n 0, 1) := by decide +kernel
theorem dX2_dayOfWeek_1 : decode cX2_dayOfWeek 1 = .ok (.invokevirtual 59, 3) := by decide +kernel
theorem dX2_dayOfWeek_4 : decode cX2_dayOfWeek 4 = .ok (.iconst 5, 1) := by decide +kernel
theorem dX2_dayOfWeek_5 : decode cX2_dayOfWeek 5 = .ok (.iadd, 1) := by decide +kernel
theorem dX2_dayOfWeek_6 : decode cX2_dayOfWeek 6 = .ok (.bipush 7, 2) := by decide +kernel
theorem dX2_dayOfWeek_8 : decode cX2_dayOfWeek 8 = .ok (.irem, 1) := by decide +kernel
theorem dX2_dayOfWeek_9 : decode cX2_dayOfWeek 9 = .ok (.ireturn, 1) := by decide +kernel
theorem dX2_goDayBack_0 : decode cX2_goDayBack 0 = .ok (.aload_n 0, 1) := by decide +kernel
theorem dX2_goDayBack_1 : decode cX2_goDayBack 1 = .ok (.dup, 1) := by decide +kernel
theorem dX2_goDayBack_2 : decode cX2_goDayBack 2 = .ok (.getfield 38, 3) := by decide +kernel
theorem dX2_goDayBack_5 : decode cX2_goDayBack 5 = .ok (.iconst 1, 1) := by decide +kernel
theorem dX2_goDayBack_6 : decode cX2_goDayBack 6 = .ok (.isub, 1) := by decide +kernel
theorem dX2_goDayBack_7 : decode cX2_goDayBack 7 = .ok (.putfield 38, 3) := by decide +kernel
theorem dX2_goDayBack_10 : decode cX2_goDayBack 10 = .ok (.aload_n 0, 1) := by decide +kernel
theorem dX2_goDayBack_11 : decode cX2_goDayBack 11 = .ok (.getfield 38, 3) := by decide +kernel
theorem dX2_goDayBack_14 : decode cX2_goDayBack 14 = .ok (.ifCond .le 4, 3) := by decide +kernel
theorem dX2_goDayBack_17 : decode cX2_goDayBack 17 = .ok (.return_, 1) := by decide +kernel
theorem dX2_goDayBack_18 : decode cX2_goDayBack 18 = .ok (.aload_n 0, 1) := by decide +kernel
theorem dX2_goDayBack_19 : decode cX2_goDayBack 19 = .ok (.dup, 1) := by decide +kernel
theorem dX2_goDayBack_20 : decode cX2_goDayBack 20 = .ok (.getfield 41, 3) := by decide +kernel
theorem dX2_goDayBack_23 : decode cX2_goDayBack 23 = .ok (.iconst 1, 1) := by decide +kernel
theorem dX2_goDayBack_24 : decode cX2_goDayBack 24 = .ok (.isub, 1) := by decide +kernel
theorem dX2_goDayBack_25 : decode cX2_goDayBack 25 = .ok (.putfield 41, 3) := by decide +kernel
theorem dX2_goDayBack_28 : decode cX2_goDayBack 28 = .ok (.aload_n 0, 1) := by decide +kernel
theorem dX2_goDayBack_29 : decode cX2_goDayBack 29 = .ok (.getfield 41, 3) := by decide +kernel
theorem dX2_goDayBack_32 : decode cX2_goDayBack 32 = .ok (.ifCond .ne 19, 3) := by decide +kernel
theorem dX2_goDayBack_35 : decode cX2_goDayBack 35 = .ok (.aload_n 0, 1) := by decide +kernel
theorem dX2_goDayBack_36 : decode cX2_goDayBack 36 = .ok (.bipush 12, 2) := by decide +kernel
theorem dX2_goDayBack_38 : decode cX2_goDayBack 38 = .ok (.putfield 41, 3) := by decide +kernel
theorem dX2_goDayBack_41 : decode cX2_goDayBack 41 = .ok (.aload_n 0, 1) := by decide +kernel
theorem dX2_goDayBack_42 : decode cX2_goDayBack 42 = .ok (.dup, 1) := by decide +kernel
theorem dX2_goDayBack_43 : decode cX2_goDayBack 43 = .ok (.getfield 44, 3) := by decide +kernel
theorem dX2_goDayBack_46 : decode cX2_goDayBack 46 = .ok (.iconst 1, 1) := by decide +kernel
theorem dX2_goDayBack_47 : decode cX2_goDayBack 47 = .ok (.isub, 1) := by decide +kernel
theorem dX2_goDayBack_48 : decode cX2_goDayBack 48 = .ok (.putfield 44, 3) := by decide +kernel
theorem dX2_goDayBack_51 : decode cX2_goDayBack 51 = .ok (.aload_n 0, 1) := by decide +kernel
theorem dX2_goDayBack_52 : decode cX2_goDayBack 52 = .ok (.aload_n 0, 1) := by decide +kernel
theorem dX2_goDayBack_53 : decode cX2_goDayBack 53 = .ok (.getfield 44, 3) := by decide +kernel
theorem dX2_goDayBack_56 : decode cX2_goDayBack 56 = .ok (.aload_n 0, 1) := by decide +kernel
theorem dX2_goDayBack_57 : decode cX2_goDayBack 57 = .ok (.getfield 41, 3) := by decide +kernel
theorem dX2_goDayBack_60 : decode cX2_goDayBack 60 = .ok (.invokestatic 47, 3) := by decide +kernel
theorem dX2_goDayBack_63 : decode cX2_goDayBack 63 = .ok (.putfield 38, 3) := by decide +kernel
theorem dX2_goDayBack_66 : decode cX2_goDayBack 66 = .ok (.return_, 1) := by decide +kernel
theorem dX2_goDayOn_0 : decode cX2_goDayOn 0 = .ok (.aload_n 0, 1) := by decide +kernel
theorem dX2_goDayOn_1 : decode cX2_goDayOn 1 = .ok (.dup, 1) := by decide +kernel
theorem dX2_goDayOn_2 : decode cX2_goDayOn 2 = .ok (.getfield 38, 3) := by decide +kernel
theorem dX2_goDayOn_5 : decode cX2_goDayOn 5 = .ok (.iconst 1, 1) := by decide +kernel
theorem dX2_goDayOn_6 : decode cX2_goDayOn 6 = .ok (.iadd, 1) := by decide +kernel
theorem dX2_goDayOn_7 : decode cX2_goDayOn 7 = .ok (.putfield 38, 3) := by decide +kernel
theorem dX2_goDayOn_10 : decode cX2_goDayOn 10 = .ok (.aload_n 0, 1) := by decide +kernel
theorem dX2_goDayOn_11 : decode cX2_goDayOn 11 = .ok (.getfield 38, 3) := by decide +kernel
theorem dX2_goDayOn_14 : decode cX2_goDayOn 14 = .ok (.aload_n 0, 1) := by decide +kernel
theorem dX2_goDayOn_15 : decode cX2_goDayOn 15 = .ok (.getfield 44, 3) := by decide +kernel
theorem dX2_goDayOn_18 : decode cX2_goDayOn 18 = .ok (.aload_n 0, 1) := by decide +kernel
theorem dX2_goDayOn_19 : decode cX2_goDayOn 19 = .ok (.getfield 41, 3) := by decide +kernel
theorem dX2_goDayOn_22 : decode cX2_goDayOn 22 = .ok (.invokestatic 47, 3) := by decide +kernel
theorem dX2_goDayOn_25 : decode cX2_goDayOn 25 = .ok (.if_icmp .gt 4, 3) := by decide +kernel
theorem dX2_goDayOn_28 : decode cX2_goDayOn 28 = .ok (.return_, 1) := by decide +kernel
theorem dX2_goDayOn_29 : decode cX2_goDayOn 29 = .ok (.aload_n 0, 1) := by decide +kernel
theorem dX2_goDayOn_30 : decode cX2_goDayOn 30 = .ok (.iconst 1, 1) := by decide +kernel
theorem dX2_goDayOn_31 : decode cX2_goDayOn 31 = .ok (.putfield 38, 3) := by decide +kernel
theorem dX2_goDayOn_34 : decode cX2_goDayOn 34 = .ok (.aload_n 0, 1) := by decide +kernel
theorem dX2_goDayOn_35 : decode cX2_goDayOn 35 = .ok (.dup, 1) := by decide +kernel
theorem dX2_goDayOn_36 : decode cX2_goDayOn 36 = .ok (.getfield 41, 3) := by decide +kernel
theorem dX2_goDayOn_39 : decode cX2_goDayOn 39 = .ok (.iconst 1, 1) := by decide +kernel
theorem dX2_goDayOn_40 : decode cX2_goDayOn 40 = .ok (.iadd, 1) := by decide +kernel
theorem dX2_goDayOn_41 : decode cX2_goDayOn 41 = .ok (.putfield 41, 3) := by decide +kernel
theorem dX2_goDayOn_44 : decode cX2_goDayOn 44 = .ok (.aload_n 0, 1) := by decide +kernel
