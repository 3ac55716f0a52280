theorem dX3_readUnits_92 : decode cX3_readUnits 92 = .ok (.iconst (-1), 1) := by decide +kernel
theorem dX3_readUnits_93 : decode cX3_readUnits 93 = .ok (.goto 4, 3) := by decide +kernel
theorem dX3_readUnits_96 : decode cX3_readUnits 96 = .ok (.iconst 3, 1) := by decide +kernel
theorem dX3_readUnits_97 : decode cX3_readUnits 97 = .ok (.ireturn, 1) := by decide +kernel
theorem dX3_readZone_0 : decode cX3_readZone 0 = .ok (.aload_n 1, 1) := by decide +kernel
theorem dX3_readZone_1 : decode cX3_readZone 1 = .ok (.aload_n 0, 1) := by decide +kernel
theorem dX3_readZone_2 : decode cX3_readZone 2 = .ok (.getfield 9, 3) := by decide +kernel
theorem dX3_readZone_5 : decode cX3_readZone 5 = .ok (.invokevirtual 75, 3) := by decide +kernel
theorem dX3_readZone_8 : decode cX3_readZone 8 = .ok (.istore_n 3, 1) := by decide +kernel
theorem dX3_readZone_9 : decode cX3_readZone 9 = .ok (.aload_n 0, 1) := by decide +kernel
theorem dX3_readZone_10 : decode cX3_readZone 10 = .ok (.dup, 1) := by decide +kernel
theorem dX3_readZone_11 : decode cX3_readZone 11 = .ok (.getfield 9, 3) := by decide +kernel
theorem dX3_readZone_14 : decode cX3_readZone 14 = .ok (.iconst 1, 1) := by decide +kernel
theorem dX3_readZone_15 : decode cX3_readZone 15 = .ok (.iadd, 1) := by decide +kernel
theorem dX3_readZone_16 : decode cX3_readZone 16 = .ok (.putfield 9, 3) := by decide +kernel
theorem dX3_readZone_19 : decode cX3_readZone 19 = .ok (.iload_n 3, 1) := by decide +kernel
theorem dX3_readZone_20 : decode cX3_readZone 20 = .ok (.bipush 90, 2) := by decide +kernel
theorem dX3_readZone_22 : decode cX3_readZone 22 = .ok (.if_icmp .ne 5, 3) := by decide +kernel
theorem dX3_readZone_25 : decode cX3_readZone 25 = .ok (.iconst 1, 1) := by decide +kernel
theorem dX3_readZone_26 : decode cX3_readZone 26 = .ok (.ireturn, 1) := by decide +kernel
theorem dX3_readZone_27 : decode cX3_readZone 27 = .ok (.iload_n 3, 1) := by decide +kernel
theorem dX3_readZone_28 : decode cX3_readZone 28 = .ok (.bipush 43, 2) := by decide +kernel
theorem dX3_readZone_30 : decode cX3_readZone 30 = .ok (.if_icmp .eq 11, 3) := by decide +kernel
theorem dX3_readZone_33 : decode cX3_readZone 33 = .ok (.iload_n 3, 1) := by decide +kernel
theorem dX3_readZone_34 : decode cX3_readZone 34 = .ok (.bipush 45, 2) := by decide +kernel
theorem dX3_readZone_36 : decode cX3_readZone 36 = .ok (.if_icmp .eq 5, 3) := by decide +kernel
theorem dX3_readZone_39 : decode cX3_readZone 39 = .ok (.iconst 0, 1) := by decide +kernel
theorem dX3_readZone_40 : decode cX3_readZone 40 = .ok (.ireturn, 1) := by decide +kernel
theorem dX3_readZone_41 : decode cX3_readZone 41 = .ok (.aload_n 0, 1) := by decide +kernel
theorem dX3_readZone_42 : decode cX3_readZone 42 = .ok (.aload_n 1, 1) := by decide +kernel
theorem dX3_readZone_43 : decode cX3_readZone 43 = .ok (.iconst 0, 1) := by decide +kernel
theorem dX3_readZone_44 : decode cX3_readZone 44 = .ok (.bipush 23, 2) := by decide +kernel
theorem dX3_readZone_46 : decode cX3_readZone 46 = .ok (.invokevirtual 57, 3) := by decide +kernel
theorem dX3_readZone_49 : decode cX3_readZone 49 = .ok (.istore 4, 2) := by decide +kernel
theorem dX3_readZone_51 : decode cX3_readZone 51 = .ok (.iload 4, 2) := by decide +kernel
theorem dX3_readZone_53 : decode cX3_readZone 53 = .ok (.iconst (-1), 1) := by decide +kernel
theorem dX3_readZone_54 : decode cX3_readZone 54 = .ok (.if_icmp .ne 5, 3) := by decide +kernel
theorem dX3_readZone_57 : decode cX3_readZone 57 = .ok (.iconst 0, 1) := by decide +kernel
theorem dX3_readZone_58 : decode cX3_readZone 58 = .ok (.ireturn, 1) := by decide +kernel
theorem dX3_readZone_59 : decode cX3_readZone 59 = .ok (.iconst 0, 1) := by decide +kernel
theorem dX3_readZone_60 : decode cX3_readZone 60 = .ok (.istore 5, 2) := by decide +kernel
theorem dX3_readZone_62 : decode cX3_readZone 62 = .ok (.iload_n 2, 1) := by decide +kernel
theorem dX3_readZone_63 : decode cX3_readZone 63 = .ok (.ifCond .eq 15, 3) := by decide +kernel
theorem dX3_readZone_66 : decode cX3_readZone 66 = .ok (.aload_n 1, 1) := by decide +kernel
theorem dX3_readZone_67 : decode cX3_readZone 67 = .ok (.aload_n 0, 1) := by decide +kernel
theorem dX3_readZone_68 : decode cX3_readZone 68 = .ok (.getfield 9, 3) := by decide +kernel
theorem dX3_readZone_71 : decode cX3_readZone 71 = .ok (.invokevirtual 85, 3) := by decide +kernel
theorem dX3_readZone_74 : decode cX3_readZone 74 = .ok (.iconst (-1), 1) := by decide +kernel
theorem dX3_readZone_75 : decode cX3_readZone 75 = .ok (.if_icmp .eq 13, 3) := by decide +kernel
theorem dX3_readZone_78 : decode cX3_readZone 78 = .ok (.aload_n 0, 1) := by decide +kernel
theorem dX3_readZone_79 : decode cX3_readZone 79 = .ok (.aload_n 1, 1) := by decide +kernel
theorem dX3_readZone_80 : decode cX3_readZone 80 = .ok (.iconst 0, 1) := by decide +kernel
theorem dX3_readZone_81 : decode cX3_readZone 81 = .ok (.bipush 59, 2) := by decide +kernel
theorem dX3_readZone_83 : decode cX3_readZone 83 = .ok (.invokevirtual 57, 3) := by decide +kernel
theorem dX3_readZone_86 : decode cX3_readZone 86 = .ok (.istore 5, 2) := by decide +kernel
theorem dX3_readZone_88 : decode cX3_readZone 88 = .ok (.iload 5, 2) := by decide +kernel
theorem dX3_readZone_90 : decode cX3_readZone 90 = .ok (.iconst (-1), 1) := by decide +kernel
theorem dX3_readZone_91 : decode cX3_readZone 91 = .ok (.if_icmp .ne 5, 3) := by decide +kernel
theorem dX3_readZone_94 : decode cX3_readZone 94 = .ok (.iconst 0, 1) := by decide +kernel
theorem dX3_readZone_95 : decode cX3_readZone 95 = .ok (.ireturn, 1) := by decide +kernel
theorem dX3_readZone_96 : decode cX3_readZone 96 = .ok (.iload 4, 2) := by decide +kernel
theorem dX3_readZone_98 : decode cX3_readZone 98 = .ok (.bipush 60, 2) := by decide +kernel
theorem dX3_readZone_100 : decode cX3_readZone 100 = .ok (.imul, 1) := by decide +kernel
theorem dX3_readZone_101 : decode cX3_readZone 101 = .ok (.iload 5, 2) := by decide +kernel
theorem dX3_readZone_103 : decode cX3_readZone 103 = .ok (.iadd, 1) := by decide +kernel
theorem dX3_readZone_104 : decode cX3_readZone 104 = .ok (.istore 6, 2) := by decide +kernel
theorem dX3_readZone_106 : decode cX3_readZone 106 = .ok (.aload_n 0, 1) := by decide +kernel
theorem dX3_readZone_107 : decode cX3_readZone 107 = .ok (.iload_n 3, 1) := by decide +kernel
theorem dX3_readZone_108 : decode cX3_readZone 108 = .ok (.bipush 43, 2) := by decide +kernel
theorem dX3_readZone_110 : decode cX3_readZone 110 = .ok (.if_icmp .ne 8, 3) := by decide +kernel
theorem dX3_readZone_113 : decode cX3_readZone 113 = .ok (.iload 6, 2) := by decide +kernel
theorem dX3_readZone_115 : decode cX3_readZone 115 = .ok (.goto 6, 3) := by decide +kernel
theorem dX3_readZone_118 : decode cX3_readZone 118 = .ok (.iload 6, 2) := by decide +kernel
theorem dX3_readZone_120 : decode cX3_readZone 120 = .ok (.ineg, 1) := by decide +kernel
theorem dX3_readZone_121 : decode cX3_readZone 121 = .ok (.putfield 15, 3) := by decide +kernel
theorem dX3_readZone_124 : decode cX3_readZone 124 = .ok (.iconst 1, 1) := by decide +kernel
theorem dX3_readZone_125 : decode cX3_readZone 125 = .ok (.ireturn, 1) := by decide +kernel
theorem dX3_shortYear_0 : decode cX3_shortYear 0 = .ok (.aload_n 0, 1) := by decide +kernel
theorem dX3_shortYear_1 : decode cX3_shortYear 1 = .ok (.aload_n 1, 1) := by decide +kernel
theorem dX3_shortYear_2 : decode cX3_shortYear 2 = .ok (.iconst 0, 1) := by decide +kernel
theorem dX3_shortYear_3 : decode cX3_shortYear 3 = .ok (.bipush 99, 2) := by decide +kernel
theorem dX3_shortYear_5 : decode cX3_shortYear 5 = .ok (.invokevirtual 57, 3) := by decide +kernel
theorem dX3_shortYear_8 : decode cX3_shortYear 8 = .ok (.istore_n 2, 1) := by decide +kernel
theorem dX3_shortYear_9 : decode cX3_shortYear 9 = .ok (.iload_n 2, 1) := by decide +kernel
theorem dX3_shortYear_10 : decode cX3_shortYear 10 = .ok (.iconst (-1), 1) := by decide +kernel
theorem dX3_shortYear_11 : decode cX3_shortYear 11 = .ok (.if_icmp .ne 5, 3) := by decide +kernel
theorem dX3_shortYear_14 : decode cX3_shortYear 14 = .ok (.iconst (-1), 1) := by decide +kernel
theorem dX3_shortYear_15 : decode cX3_shortYear 15 = .ok (.ireturn, 1) := by decide +kernel
theorem dX3_shortYear_16 : decode cX3_shortYear 16 = .ok (.iload_n 2, 1) := by decide +kernel
theorem dX3_shortYear_17 : decode cX3_shortYear 17 = .ok (.bipush 50, 2) := by decide +kernel
theorem dX3_shortYear_19 : decode cX3_shortYear 19 = .ok (.if_icmp .ge 11, 3) := by decide +kernel
theorem dX3_shortYear_22 : decode cX3_shortYear 22 = .ok (.sipush 2000, 3) := by decide +kernel
theorem dX3_shortYear_25 : decode cX3_shortYear 25 = .ok (.iload_n 2, 1) := by decide +kernel
theorem dX3_shortYear_26 : decode cX3_shortYear 26 = .ok (.iadd, 1) := by decide +kernel
theorem dX3_shortYear_27 : decode cX3_shortYear 27 = .ok (.goto 8, 3) := by decide +kernel
theorem dX3_shortYear_30 : decode cX3_shortYear 30 = .ok (.sipush 1900, 3) := by decide +kernel
theorem dX3_shortYear_33 : decode cX3_shortYear 33 = .ok (.iload_n 2, 1) := by decide +kernel
theorem dX3_shortYear_34 : decode cX3_shortYear 34 = .ok (.iadd, 1) := by decide +kernel
theorem dX3_shortYear_35 : decode cX3_shortYear 35 = .ok (.ireturn, 1) := by decide +kernel
theorem dX3_yearFits_0 : decode cX3_yearFits 0 = .ok (.iload_n 0, 1) := by decide +kernel
theorem dX3_yearFits_1 : decode cX3_yearFits 1 = .ok (.ifCond .ne 23, 3) := by decide +kernel
theorem dX3_yearFits_4 : decode cX3_yearFits 4 = .ok (.iload_n 1, 1) := by decide +kernel
theorem dX3_yearFits_5 : decode cX3_yearFits 5 = .ok (.sipush 1950, 3) := by decide +kernel
theorem dX3_yearFits_8 : decode cX3_yearFits 8 = .ok (.if_icmp .lt 14, 3) := by decide +kernel
theorem dX3_yearFits_11 : decode cX3_yearFits 11 = .ok (.iload_n 1, 1) := by decide +kernel
theorem dX3_yearFits_12 : decode cX3_yearFits 12 = .ok (.sipush 2049, 3) := by decide +kernel
theorem dX3_yearFits_15 : decode cX3_yearFits 15 = .ok (.if_icmp .gt 7, 3) := by decide +kernel
theorem dX3_yearFits_18 : decode cX3_yearFits 18 = .ok (.iconst 1, 1) := by decide +kernel
theorem dX3_yearFits_19 : decode cX3_yearFits 19 = .ok (.goto 4, 3) := by decide +kernel
theorem dX3_yearFits_22 : decode cX3_yearFits 22 = .ok (.iconst 0, 1) := by decide +kernel
theorem dX3_yearFits_23 : decode cX3_yearFits 23 = .ok (.ireturn, 1) := by decide +kernel
theorem dX3_yearFits_24 : decode cX3_yearFits 24 = .ok (.iload_n 1, 1) := by decide +kernel
theorem dX3_yearFits_25 : decode cX3_yearFits 25 = .ok (.ifCond .lt 14, 3) := by decide +kernel
theorem dX3_yearFits_28 : decode cX3_yearFits 28 = .ok (.iload_n 1, 1) := by decide +kernel
theorem dX3_yearFits_29 : decode cX3_yearFits 29 = .ok (.sipush 9999, 3) := by decide +kernel
theorem dX3_yearFits_32 : decode cX3_yearFits 32 = .ok (.if_icmp .gt 7, 3) := by decide +kernel
theorem dX3_yearFits_35 : decode cX3_yearFits 35 = .ok (.iconst 1, 1) := by decide +kernel
theorem dX3_yearFits_36 : decode cX3_yearFits 36 = .ok (.goto 4, 3) := by decide +kernel
theorem dX3_yearFits_39 : decode cX3_yearFits 39 = .ok (.iconst 0, 1) := by decide +kernel
theorem dX3_yearFits_40 : decode cX3_yearFits 40 = .ok (.ireturn, 1) := by decide +kernel
theorem dX4_init_0 : decode cX4_init 0 = .ok (.aload_n 0, 1) := by decide +kernel
theorem dX4_init_1 : decode cX4_init 1 = .ok (.invokespecial 1, 3) := by decide +kernel
theorem dX4_init_4 : decode cX4_init 4 = .ok (.aload_n 0, 1) := by decide +kernel
theorem dX4_init_5 : decode cX4_init 5 = .ok (.new 7, 3) := by decide +kernel
theorem dX4_init_8 : decode cX4_init 8 = .ok (.dup, 1) := by decide +kernel
theorem dX4_init_9 : decode cX4_init 9 = .ok (.invokespecial 9, 3) := by decide +kernel
theorem dX4_init_12 : decode cX4_init 12 = .ok (.putfield 10, 3) := by decide +kernel
theorem dX4_init_15 : decode cX4_init 15 = .ok (.aload_n 0, 1) := by decide +kernel
theorem dX4_init_16 : decode cX4_init 16 = .ok (.new 7, 3) := by decide +kernel
theorem dX4_init_19 : decode cX4_init 19 = .ok (.dup, 1) := by decide +kernel
theorem dX4_init_20 : decode cX4_init 20 = .ok (.invokespecial 9, 3) := by decide +kernel
theorem dX4_init_23 : decode cX4_init 23 = .ok (.putfield 16, 3) := by decide +kernel
theorem dX4_init_26 : decode cX4_init 26 = .ok (.aload_n 0, 1) := by decide +kernel
theorem dX4_init_27 : decode cX4_init 27 = .ok (.new 19, 3) := by decide +kernel
theorem dX4_init_30 : decode cX4_init 30 = .ok (.dup, 1) := by decide +kernel
theorem dX4_init_31 : decode cX4_init 31 = .ok (.invokespecial 21, 3) := by decide +kernel
theorem dX4_init_34 : decode cX4_init 34 = .ok (.putfield 22, 3) := by decide +kernel
theorem dX4_init_37 : decode cX4_init 37 = .ok (.aload_n 0, 1) := by decide +kernel
theorem dX4_init_38 : decode cX4_init 38 = .ok (.new 26, 3) := by decide +kernel
theorem dX4_init_41 : decode cX4_init 41 = .ok (.dup, 1) := by decide +kernel
theorem dX4_init_42 : decode cX4_init 42 = .ok (.invokespecial 28, 3) := by decide +kernel
theorem dX4_init_45 : decode cX4_init 45 = .ok (.putfield 29, 3) := by decide +kernel
theorem dX4_init_48 : decode cX4_init 48 = .ok (.aload_n 0, 1) := by decide +kernel
theorem dX4_init_49 : decode cX4_init 49 = .ok (.new 33, 3) := by decide +kernel
theorem dX4_init_52 : decode cX4_init 52 = .ok (.dup, 1) := by decide +kernel
theorem dX4_init_53 : decode cX4_init 53 = .ok (.invokespecial 35, 3) := by decide +kernel
theorem dX4_init_56 : decode cX4_init 56 = .ok (.putfield 36, 3) := by decide +kernel
theorem dX4_init_59 : decode cX4_init 59 = .ok (.aload_n 0, 1) := by decide +kernel
theorem dX4_init_60 : decode cX4_init 60 = .ok (.iconst 0, 1) := by decide +kernel
theorem dX4_init_61 : decode cX4_init 61 = .ok (.putfield 40, 3) := by decide +kernel
theorem dX4_init_64 : decode cX4_init 64 = .ok (.aload_n 0, 1) := by decide +kernel
theorem dX4_init_65 : decode cX4_init 65 = .ok (.iconst 0, 1) := by decide +kernel
theorem dX4_init_66 : decode cX4_init 66 = .ok (.putfield 44, 3) := by decide +kernel
theorem dX4_init_69 : decode cX4_init 69 = .ok (.return_, 1) := by decide +kernel
theorem dX4_again_0 : decode cX4_again 0 = .ok (.aload_n 0, 1) := by decide +kernel
theorem dX4_again_1 : decode cX4_again 1 = .ok (.getfield 40, 3) := by decide +kernel
theorem dX4_again_4 : decode cX4_again 4 = .ok (.ifCond .ne 13, 3) := by decide +kernel
theorem dX4_again_7 : decode cX4_again 7 = .ok (.new 51, 3) := by decide +kernel
theorem dX4_again_10 : decode cX4_again 10 = .ok (.dup, 1) := by decide +kernel
theorem dX4_again_11 : decode cX4_again 11 = .ok (.ldc 89, 2) := by decide +kernel
theorem dX4_again_13 : decode cX4_again 13 = .ok (.invokespecial 55, 3) := by decide +kernel
theorem dX4_again_16 : decode cX4_again 16 = .ok (.athrow, 1) := by decide +kernel
theorem dX4_again_17 : decode cX4_again 17 = .ok (.aload_n 0, 1) := by decide +kernel
theorem dX4_again_18 : decode cX4_again 18 = .ok (.getfield 10, 3) := by decide +kernel
theorem dX4_again_21 : decode cX4_again 21 = .ok (.iconst 0, 1) := by decide +kernel
theorem dX4_again_22 : decode cX4_again 22 = .ok (.putfield 48, 3) := by decide +kernel
theorem dX4_again_25 : decode cX4_again 25 = .ok (.iconst 0, 1) := by decide +kernel
theorem dX4_again_26 : decode cX4_again 26 = .ok (.istore_n 1, 1) := by decide +kernel
theorem dX4_again_27 : decode cX4_again 27 = .ok (.iload_n 1, 1) := by decide +kernel
theorem dX4_again_28 : decode cX4_again 28 = .ok (.aload_n 0, 1) := by decide +kernel
theorem dX4_again_29 : decode cX4_again 29 = .ok (.getfield 16, 3) := by decide +kernel
theorem dX4_again_32 : decode cX4_again 32 = .ok (.getfield 48, 3) := by decide +kernel
theorem dX4_again_35 : decode cX4_again 35 = .ok (.if_icmp .ge 24, 3) := by decide +kernel
theorem dX4_again_38 : decode cX4_again 38 = .ok (.aload_n 0, 1) := by decide +kernel
theorem dX4_again_39 : decode cX4_again 39 = .ok (.getfield 10, 3) := by decide +kernel
theorem dX4_again_42 : decode cX4_again 42 = .ok (.aload_n 0, 1) := by decide +kernel
theorem dX4_again_43 : decode cX4_again 43 = .ok (.getfield 16, 3) := by decide +kernel
theorem dX4_again_46 : decode cX4_again 46 = .ok (.iload_n 1, 1) := by decide +kernel
theorem dX4_again_47 : decode cX4_again 47 = .ok (.invokevirtual 85, 3) := by decide +kernel
theorem dX4_again_50 : decode cX4_again 50 = .ok (.invokevirtual 91, 3) := by decide +kernel
theorem dX4_again_53 : decode cX4_again 53 = .ok (.iinc 1 1, 3) := by decide +kernel
theorem dX4_again_56 : decode cX4_again 56 = .ok (.goto (-29), 3) := by decide +kernel
theorem dX4_again_59 : decode cX4_again 59 = .ok (.aload_n 0, 1) := by decide +kernel
theorem dX4_again_60 : decode cX4_again 60 = .ok (.getfield 10, 3) := by decide +kernel
theorem dX4_again_63 : decode cX4_again 63 = .ok (.getfield 48, 3) := by decide +kernel
theorem dX4_again_66 : decode cX4_again 66 = .ok (.ireturn, 1) := by decide +kernel
theorem dX4_between_0 : decode cX4_between 0 = .ok (.aload_n 0, 1) := by decide +kernel
theorem dX4_between_1 : decode cX4_between 1 = .ok (.getfield 36, 3) := by decide +kernel
theorem dX4_between_4 : decode cX4_between 4 = .ok (.iload_n 1, 1) := by decide +kernel
theorem dX4_between_5 : decode cX4_between 5 = .ok (.invokevirtual 137, 3) := by decide +kernel
theorem dX4_between_8 : decode cX4_between 8 = .ok (.ifCond .eq 14, 3) := by decide +kernel
theorem dX4_between_11 : decode cX4_between 11 = .ok (.aload_n 0, 1) := by decide +kernel
theorem dX4_between_12 : decode cX4_between 12 = .ok (.getfield 36, 3) := by decide +kernel
theorem dX4_between_15 : decode cX4_between 15 = .ok (.iload_n 2, 1) := by decide +kernel
theorem dX4_between_16 : decode cX4_between 16 = .ok (.invokevirtual 137, 3) := by decide +kernel
theorem dX4_between_19 : decode cX4_between 19 = .ok (.ifCond .ne 13, 3) := by decide +kernel
theorem dX4_between_22 : decode cX4_between 22 = .ok (.new 80, 3) := by decide +kernel
theorem dX4_between_25 : decode cX4_between 25 = .ok (.dup, 1) := by decide +kernel
theorem dX4_between_26 : decode cX4_between 26 = .ok (.ldc 147, 2) := by decide +kernel
theorem dX4_between_28 : decode cX4_between 28 = .ok (.invokespecial 84, 3) := by decide +kernel
theorem dX4_between_31 : decode cX4_between 31 = .ok (.athrow, 1) := by decide +kernel
theorem dX4_between_32 : decode cX4_between 32 = .ok (.aload_n 0, 1) := by decide +kernel
theorem dX4_between_33 : decode cX4_between 33 = .ok (.getfield 36, 3) := by decide +kernel
theorem dX4_between_36 : decode cX4_between 36 = .ok (.getfield 149, 3) := by decide +kernel
theorem dX4_between_39 : decode cX4_between 39 = .ok (.iload_n 2, 1) := by decide +kernel
theorem dX4_between_40 : decode cX4_between 40 = .ok (.laload, 1) := by decide +kernel
theorem dX4_between_41 : decode cX4_between 41 = .ok (.aload_n 0, 1) := by decide +kernel
theorem dX4_between_42 : decode cX4_between 42 = .ok (.getfield 36, 3) := by decide +kernel
theorem dX4_between_45 : decode cX4_between 45 = .ok (.getfield 149, 3) := by decide +kernel
theorem dX4_between_48 : decode cX4_between 48 = .ok (.iload_n 1, 1) := by decide +kernel
theorem dX4_between_49 : decode cX4_between 49 = .ok (.laload, 1) := by decide +kernel
theorem dX4_between_50 : decode cX4_between 50 = .ok (.lsub, 1) := by decide +kernel
theorem dX4_between_51 : decode cX4_between 51 = .ok (.lreturn, 1) := by decide +kernel
theorem dX4_count_0 : decode cX4_count 0 = .ok (.iload_n 1, 1) := by decide +kernel
theorem dX4_count_1 : decode cX4_count 1 = .ok (.tableswitch 51 0 2 #[27, 35, 43], 27) := by decide +kernel
theorem dX4_count_28 : decode cX4_count 28 = .ok (.aload_n 0, 1) := by decide +kernel
theorem dX4_count_29 : decode cX4_count 29 = .ok (.getfield 10, 3) := by decide +kernel
theorem dX4_count_32 : decode cX4_count 32 = .ok (.getfield 48, 3) := by decide +kernel
theorem dX4_count_35 : decode cX4_count 35 = .ok (.ireturn, 1) := by decide +kernel
theorem dX4_count_36 : decode cX4_count 36 = .ok (.aload_n 0, 1) := by decide +kernel
theorem dX4_count_37 : decode cX4_count 37 = .ok (.getfield 16, 3) := by decide +kernel
theorem dX4_count_40 : decode cX4_count 40 = .ok (.getfield 48, 3) := by decide +kernel
theorem dX4_count_43 : decode cX4_count 43 = .ok (.ireturn, 1) := by decide +kernel
theorem dX4_count_44 : decode cX4_count 44 = .ok (.aload_n 0, 1) := by decide +kernel
theorem dX4_count_45 : decode cX4_count 45 = .ok (.getfield 36, 3) := by decide +kernel
theorem dX4_count_48 : decode cX4_count 48 = .ok (.getfield 125, 3) := by decide +kernel
theorem dX4_count_51 : decode cX4_count 51 = .ok (.ireturn, 1) := by decide +kernel
theorem dX4_count_52 : decode cX4_count 52 = .ok (.iconst (-1), 1) := by decide +kernel
theorem dX4_count_53 : decode cX4_count 53 = .ok (.ireturn, 1) := by decide +kernel
theorem dX4_daysOfMonth_0 : decode cX4_daysOfMonth 0 = .ok (.iload_n 1, 1) := by decide +kernel
theorem dX4_daysOfMonth_1 : decode cX4_daysOfMonth 1 = .ok (.iconst 1, 1) := by decide +kernel
theorem dX4_daysOfMonth_2 : decode cX4_daysOfMonth 2 = .ok (.if_icmp .lt 9, 3) := by decide +kernel
theorem dX4_daysOfMonth_5 : decode cX4_daysOfMonth 5 = .ok (.iload_n 1, 1) := by decide +kernel
theorem dX4_daysOfMonth_6 : decode cX4_daysOfMonth 6 = .ok (.bipush 12, 2) := by decide +kernel
theorem dX4_daysOfMonth_8 : decode cX4_daysOfMonth 8 = .ok (.if_icmp .le 5, 3) := by decide +kernel
theorem dX4_daysOfMonth_11 : decode cX4_daysOfMonth 11 = .ok (.iconst 0, 1) := by decide +kernel
theorem dX4_daysOfMonth_12 : decode cX4_daysOfMonth 12 = .ok (.ireturn, 1) := by decide +kernel
theorem dX4_daysOfMonth_13 : decode cX4_daysOfMonth 13 = .ok (.getstatic 159, 3) := by decide +kernel
theorem dX4_daysOfMonth_16 : decode cX4_daysOfMonth 16 = .ok (.iload_n 1, 1) := by decide +kernel
theorem dX4_daysOfMonth_17 : decode cX4_daysOfMonth 17 = .ok (.iaload, 1) := by decide +kernel
theorem dX4_daysOfMonth_18 : decode cX4_daysOfMonth 18 = .ok (.getstatic 159, 3) := by decide +kernel
theorem dX4_daysOfMonth_21 : decode cX4_daysOfMonth 21 = .ok (.iload_n 1, 1) := by decide +kernel
theorem dX4_daysOfMonth_22 : decode cX4_daysOfMonth 22 = .ok (.iconst 1, 1) := by decide +kernel
theorem dX4_daysOfMonth_23 : decode cX4_daysOfMonth 23 = .ok (.isub, 1) := by decide +kernel
theorem dX4_daysOfMonth_24 : decode cX4_daysOfMonth 24 = .ok (.iaload, 1) := by decide +kernel
theorem dX4_daysOfMonth_25 : decode cX4_daysOfMonth 25 = .ok (.isub, 1) := by decide +kernel
theorem dX4_daysOfMonth_26 : decode cX4_daysOfMonth 26 = .ok (.istore_n 2, 1) := by decide +kernel
theorem dX4_daysOfMonth_27 : decode cX4_daysOfMonth 27 = .ok (.iload_n 1, 1) := by decide +kernel
theorem dX4_daysOfMonth_28 : decode cX4_daysOfMonth 28 = .ok (.iconst 2, 1) := by decide +kernel
theorem dX4_daysOfMonth_29 : decode cX4_daysOfMonth 29 = .ok (.if_icmp .ne 16, 3) := by decide +kernel
theorem dX4_daysOfMonth_32 : decode cX4_daysOfMonth 32 = .ok (.iload_n 0, 1) := by decide +kernel
theorem dX4_daysOfMonth_33 : decode cX4_daysOfMonth 33 = .ok (.invokestatic 162, 3) := by decide +kernel
theorem dX4_daysOfMonth_36 : decode cX4_daysOfMonth 36 = .ok (.ifCond .eq 9, 3) := by decide +kernel
theorem dX4_daysOfMonth_39 : decode cX4_daysOfMonth 39 = .ok (.iload_n 2, 1) := by decide +kernel
theorem dX4_daysOfMonth_40 : decode cX4_daysOfMonth 40 = .ok (.iconst 1, 1) := by decide +kernel
theorem dX4_daysOfMonth_41 : decode cX4_daysOfMonth 41 = .ok (.iadd, 1) := by decide +kernel
theorem dX4_daysOfMonth_42 : decode cX4_daysOfMonth 42 = .ok (.goto 4, 3) := by decide +kernel
theorem dX4_daysOfMonth_45 : decode cX4_daysOfMonth 45 = .ok (.iload_n 2, 1) := by decide +kernel
theorem dX4_daysOfMonth_46 : decode cX4_daysOfMonth 46 = .ok (.ireturn, 1) := by decide +kernel
theorem dX4_end_0 : decode cX4_end 0 = .ok (.iload_n 1, 1) := by decide +kernel
theorem dX4_end_1 : decode cX4_end 1 = .ok (.ifCond .lt 9, 3) := by decide +kernel
theorem dX4_end_4 : decode cX4_end 4 = .ok (.iload_n 1, 1) := by decide +kernel
theorem dX4_end_5 : decode cX4_end 5 = .ok (.bipush 16, 2) := by decide +kernel
theorem dX4_end_7 : decode cX4_end 7 = .ok (.if_icmp .le 13, 3) := by decide +kernel
theorem dX4_end_10 : decode cX4_end 10 = .ok (.new 62, 3) := by decide +kernel
theorem dX4_end_13 : decode cX4_end 13 = .ok (.dup, 1) := by decide +kernel
theorem dX4_end_14 : decode cX4_end 14 = .ok (.ldc 64, 2) := by decide +kernel
theorem dX4_end_16 : decode cX4_end 16 = .ok (.invokespecial 66, 3) := by decide +kernel
theorem dX4_end_19 : decode cX4_end 19 = .ok (.athrow, 1) := by decide +kernel
theorem dX4_end_20 : decode cX4_end 20 = .ok (.aload_n 0, 1) := by decide +kernel
theorem dX4_end_21 : decode cX4_end 21 = .ok (.getfield 10, 3) := by decide +kernel
theorem dX4_end_24 : decode cX4_end 24 = .ok (.getfield 48, 3) := by decide +kernel
theorem dX4_end_27 : decode cX4_end 27 = .ok (.bipush 16, 2) := by decide +kernel
theorem dX4_end_29 : decode cX4_end 29 = .ok (.if_icmp .ge 13, 3) := by decide +kernel
theorem dX4_end_32 : decode cX4_end 32 = .ok (.new 51, 3) := by decide +kernel
theorem dX4_end_35 : decode cX4_end 35 = .ok (.dup, 1) := by decide +kernel
theorem dX4_end_36 : decode cX4_end 36 = .ok (.ldc 67, 2) := by decide +kernel
theorem dX4_end_38 : decode cX4_end 38 = .ok (.invokespecial 55, 3) := by decide +kernel
theorem dX4_end_41 : decode cX4_end 41 = .ok (.athrow, 1) := by decide +kernel
theorem dX4_end_42 : decode cX4_end 42 = .ok (.aload_n 0, 1) := by decide +kernel
theorem dX4_end_43 : decode cX4_end 43 = .ok (.getfield 10, 3) := by decide +kernel
theorem dX4_end_46 : decode cX4_end 46 = .ok (.aload_n 0, 1) := by decide +kernel
theorem dX4_end_47 : decode cX4_end 47 = .ok (.getfield 10, 3) := by decide +kernel
theorem dX4_end_50 : decode cX4_end 50 = .ok (.getfield 48, 3) := by decide +kernel
theorem dX4_end_53 : decode cX4_end 53 = .ok (.bipush 16, 2) := by decide +kernel
theorem dX4_end_55 : decode cX4_end 55 = .ok (.isub, 1) := by decide +kernel
theorem dX4_end_56 : decode cX4_end 56 = .ok (.iload_n 1, 1) := by decide +kernel
theorem dX4_end_57 : decode cX4_end 57 = .ok (.iadd, 1) := by decide +kernel
theorem dX4_end_58 : decode cX4_end 58 = .ok (.putfield 48, 3) := by decide +kernel
theorem dX4_end_61 : decode cX4_end 61 = .ok (.aload_n 0, 1) := by decide +kernel
theorem dX4_end_62 : decode cX4_end 62 = .ok (.getfield 10, 3) := by decide +kernel
theorem dX4_end_65 : decode cX4_end 65 = .ok (.getfield 48, 3) := by decide +kernel
theorem dX4_end_68 : decode cX4_end 68 = .ok (.ireturn, 1) := by decide +kernel
theorem dX4_fault_0 : decode cX4_fault 0 = .ok (.aload_n 0, 1) := by decide +kernel
theorem dX4_fault_1 : decode cX4_fault 1 = .ok (.getfield 44, 3) := by decide +kernel
theorem dX4_fault_4 : decode cX4_fault 4 = .ok (.ireturn, 1) := by decide +kernel
theorem dX4_feed_0 : decode cX4_feed 0 = .ok (.aload_n 0, 1) := by decide +kernel
theorem dX4_feed_1 : decode cX4_feed 1 = .ok (.getfield 10, 3) := by decide +kernel
theorem dX4_feed_4 : decode cX4_feed 4 = .ok (.getfield 48, 3) := by decide +kernel
theorem dX4_feed_7 : decode cX4_feed 7 = .ok (.bipush 16, 2) := by decide +kernel
theorem dX4_feed_9 : decode cX4_feed 9 = .ok (.iadd, 1) := by decide +kernel
theorem dX4_feed_10 : decode cX4_feed 10 = .ok (.sipush 240, 3) := by decide +kernel
theorem dX4_feed_13 : decode cX4_feed 13 = .ok (.if_icmp .le 13, 3) := by decide +kernel
theorem dX4_feed_16 : decode cX4_feed 16 = .ok (.new 51, 3) := by decide +kernel
theorem dX4_feed_19 : decode cX4_feed 19 = .ok (.dup, 1) := by decide +kernel
theorem dX4_feed_20 : decode cX4_feed 20 = .ok (.ldc 53, 2) := by decide +kernel
theorem dX4_feed_22 : decode cX4_feed 22 = .ok (.invokespecial 55, 3) := by decide +kernel
theorem dX4_feed_25 : decode cX4_feed 25 = .ok (.athrow, 1) := by decide +kernel
theorem dX4_feed_26 : decode cX4_feed 26 = .ok (.aload_n 0, 1) := by decide +kernel
theorem dX4_feed_27 : decode cX4_feed 27 = .ok (.getfield 10, 3) := by decide +kernel
theorem dX4_feed_30 : decode cX4_feed 30 = .ok (.iload_n 1, 1) := by decide +kernel
theorem dX4_feed_31 : decode cX4_feed 31 = .ok (.invokevirtual 58, 3) := by decide +kernel
theorem dX4_feed_34 : decode cX4_feed 34 = .ok (.aload_n 0, 1) := by decide +kernel
theorem dX4_feed_35 : decode cX4_feed 35 = .ok (.getfield 10, 3) := by decide +kernel
theorem dX4_feed_38 : decode cX4_feed 38 = .ok (.iload_n 2, 1) := by decide +kernel
theorem dX4_feed_39 : decode cX4_feed 39 = .ok (.invokevirtual 58, 3) := by decide +kernel
theorem dX4_feed_42 : decode cX4_feed 42 = .ok (.aload_n 0, 1) := by decide +kernel
theorem dX4_feed_43 : decode cX4_feed 43 = .ok (.getfield 10, 3) := by decide +kernel
theorem dX4_feed_46 : decode cX4_feed 46 = .ok (.iload_n 3, 1) := by decide +kernel
theorem dX4_feed_47 : decode cX4_feed 47 = .ok (.invokevirtual 58, 3) := by decide +kernel
theorem dX4_feed_50 : decode cX4_feed 50 = .ok (.aload_n 0, 1) := by decide +kernel
theorem dX4_feed_51 : decode cX4_feed 51 = .ok (.getfield 10, 3) := by decide +kernel
theorem dX4_feed_54 : decode cX4_feed 54 = .ok (.iload 4, 2) := by decide +kernel
theorem dX4_feed_56 : decode cX4_feed 56 = .ok (.invokevirtual 58, 3) := by decide +kernel
theorem dX4_feed_59 : decode cX4_feed 59 = .ok (.aload_n 0, 1) := by decide +kernel
theorem dX4_feed_60 : decode cX4_feed 60 = .ok (.getfield 10, 3) := by decide +kernel
theorem dX4_feed_63 : decode cX4_feed 63 = .ok (.getfield 48, 3) := by decide +kernel
theorem dX4_feed_66 : decode cX4_feed 66 = .ok (.ireturn, 1) := by decide +kernel
theorem dX4_isLeapYear_0 : decode cX4_isLeapYear 0 = .ok (.iload_n 0, 1) := by decide +kernel
theorem dX4_isLeapYear_1 : decode cX4_isLeapYear 1 = .ok (.iconst 4, 1) := by decide +kernel
theorem dX4_isLeapYear_2 : decode cX4_isLeapYear 2 = .ok (.irem, 1) := by decide +kernel
theorem dX4_isLeapYear_3 : decode cX4_isLeapYear 3 = .ok (.ifCond .ne 22, 3) := by decide +kernel
theorem dX4_isLeapYear_6 : decode cX4_isLeapYear 6 = .ok (.iload_n 0, 1) := by decide +kernel
theorem dX4_isLeapYear_7 : decode cX4_isLeapYear 7 = .ok (.bipush 100, 2) := by decide +kernel
theorem dX4_isLeapYear_9 : decode cX4_isLeapYear 9 = .ok (.irem, 1) := by decide +kernel
theorem dX4_isLeapYear_10 : decode cX4_isLeapYear 10 = .ok (.ifCond .ne 11, 3) := by decide +kernel
theorem dX4_isLeapYear_13 : decode cX4_isLeapYear 13 = .ok (.iload_n 0, 1) := by decide +kernel
theorem dX4_isLeapYear_14 : decode cX4_isLeapYear 14 = .ok (.sipush 400, 3) := by decide +kernel
theorem dX4_isLeapYear_17 : decode cX4_isLeapYear 17 = .ok (.irem, 1) := by decide +kernel
theorem dX4_isLeapYear_18 : decode cX4_isLeapYear 18 = .ok (.ifCond .ne 7, 3) := by decide +kernel
theorem dX4_isLeapYear_21 : decode cX4_isLeapYear 21 = .ok (.iconst 1, 1) := by decide +kernel
theorem dX4_isLeapYear_22 : decode cX4_isLeapYear 22 = .ok (.goto 4, 3) := by decide +kernel
theorem dX4_isLeapYear_25 : decode cX4_isLeapYear 25 = .ok (.iconst 0, 1) := by decide +kernel
theorem dX4_isLeapYear_26 : decode cX4_isLeapYear 26 = .ok (.ireturn, 1) := by decide +kernel
theorem dX4_keep_0 : decode cX4_keep 0 = .ok (.aload_n 0, 1) := by decide +kernel
theorem dX4_keep_1 : decode cX4_keep 1 = .ok (.getfield 40, 3) := by decide +kernel
theorem dX4_keep_4 : decode cX4_keep 4 = .ok (.ifCond .ne 13, 3) := by decide +kernel
theorem dX4_keep_7 : decode cX4_keep 7 = .ok (.new 51, 3) := by decide +kernel
theorem dX4_keep_10 : decode cX4_keep 10 = .ok (.dup, 1) := by decide +kernel
theorem dX4_keep_11 : decode cX4_keep 11 = .ok (.ldc 89, 2) := by decide +kernel
theorem dX4_keep_13 : decode cX4_keep 13 = .ok (.invokespecial 55, 3) := by decide +kernel
theorem dX4_keep_16 : decode cX4_keep 16 = .ok (.athrow, 1) := by decide +kernel
theorem dX4_keep_17 : decode cX4_keep 17 = .ok (.aload_n 0, 1) := by decide +kernel
theorem dX4_keep_18 : decode cX4_keep 18 = .ok (.getfield 36, 3) := by decide +kernel
theorem dX4_keep_21 : decode cX4_keep 21 = .ok (.getfield 125, 3) := by decide +kernel
theorem dX4_keep_24 : decode cX4_keep 24 = .ok (.bipush 40, 2) := by decide +kernel
theorem dX4_keep_26 : decode cX4_keep 26 = .ok (.if_icmp .lt 13, 3) := by decide +kernel
theorem dX4_keep_29 : decode cX4_keep 29 = .ok (.new 128, 3) := by decide +kernel
theorem dX4_keep_32 : decode cX4_keep 32 = .ok (.dup, 1) := by decide +kernel
theorem dX4_keep_33 : decode cX4_keep 33 = .ok (.ldc 130, 2) := by decide +kernel
theorem dX4_keep_35 : decode cX4_keep 35 = .ok (.invokespecial 132, 3) := by decide +kernel
theorem dX4_keep_38 : decode cX4_keep 38 = .ok (.athrow, 1) := by decide +kernel
theorem dX4_keep_39 : decode cX4_keep 39 = .ok (.aload_n 0, 1) := by decide +kernel
theorem dX4_keep_40 : decode cX4_keep 40 = .ok (.getfield 36, 3) := by decide +kernel
theorem dX4_keep_43 : decode cX4_keep 43 = .ok (.aload_n 0, 1) := by decide +kernel
theorem dX4_keep_44 : decode cX4_keep 44 = .ok (.getfield 29, 3) := by decide +kernel
theorem dX4_keep_47 : decode cX4_keep 47 = .ok (.invokevirtual 133, 3) := by decide +kernel
theorem dX4_keep_50 : decode cX4_keep 50 = .ok (.ireturn, 1) := by decide +kernel
theorem dX4_order_0 : decode cX4_order 0 = .ok (.aload_n 0, 1) := by decide +kernel
theorem dX4_order_1 : decode cX4_order 1 = .ok (.getfield 36, 3) := by decide +kernel
theorem dX4_order_4 : decode cX4_order 4 = .ok (.iload_n 1, 1) := by decide +kernel
theorem dX4_order_5 : decode cX4_order 5 = .ok (.invokevirtual 137, 3) := by decide +kernel
theorem dX4_order_8 : decode cX4_order 8 = .ok (.ifCond .ne 13, 3) := by decide +kernel
theorem dX4_order_11 : decode cX4_order 11 = .ok (.new 80, 3) := by decide +kernel
theorem dX4_order_14 : decode cX4_order 14 = .ok (.dup, 1) := by decide +kernel
theorem dX4_order_15 : decode cX4_order 15 = .ok (.ldc 141, 2) := by decide +kernel
theorem dX4_order_17 : decode cX4_order 17 = .ok (.invokespecial 84, 3) := by decide +kernel
theorem dX4_order_20 : decode cX4_order 20 = .ok (.athrow, 1) := by decide +kernel
theorem dX4_order_21 : decode cX4_order 21 = .ok (.aload_n 0, 1) := by decide +kernel
theorem dX4_order_22 : decode cX4_order 22 = .ok (.getfield 36, 3) := by decide +kernel
theorem dX4_order_25 : decode cX4_order 25 = .ok (.getfield 143, 3) := by decide +kernel
theorem dX4_order_28 : decode cX4_order 28 = .ok (.iload_n 1, 1) := by decide +kernel
theorem dX4_order_29 : decode cX4_order 29 = .ok (.iaload, 1) := by decide +kernel
theorem dX4_order_30 : decode cX4_order 30 = .ok (.ireturn, 1) := by decide +kernel
theorem dX4_out_0 : decode cX4_out 0 = .ok (.iload_n 1, 1) := by decide +kernel
theorem dX4_out_1 : decode cX4_out 1 = .ok (.ifCond .lt 14, 3) := by decide +kernel
theorem dX4_out_4 : decode cX4_out 4 = .ok (.iload_n 1, 1) := by decide +kernel
theorem dX4_out_5 : decode cX4_out 5 = .ok (.aload_n 0, 1) := by decide +kernel
theorem dX4_out_6 : decode cX4_out 6 = .ok (.getfield 16, 3) := by decide +kernel
theorem dX4_out_9 : decode cX4_out 9 = .ok (.getfield 48, 3) := by decide +kernel
theorem dX4_out_12 : decode cX4_out 12 = .ok (.if_icmp .lt 13, 3) := by decide +kernel
theorem dX4_out_15 : decode cX4_out 15 = .ok (.new 80, 3) := by decide +kernel
theorem dX4_out_18 : decode cX4_out 18 = .ok (.dup, 1) := by decide +kernel
theorem dX4_out_19 : decode cX4_out 19 = .ok (.ldc 82, 2) := by decide +kernel
theorem dX4_out_21 : decode cX4_out 21 = .ok (.invokespecial 84, 3) := by decide +kernel
theorem dX4_out_24 : decode cX4_out 24 = .ok (.athrow, 1) := by decide +kernel
theorem dX4_out_25 : decode cX4_out 25 = .ok (.aload_n 0, 1) := by decide +kernel
theorem dX4_out_26 : decode cX4_out 26 = .ok (.getfield 16, 3) := by decide +kernel
theorem dX4_out_29 : decode cX4_out 29 = .ok (.iload_n 1, 1) := by decide +kernel
theorem dX4_out_30 : decode cX4_out 30 = .ok (.invokevirtual 85, 3) := by decide +kernel
theorem dX4_out_33 : decode cX4_out 33 = .ok (.ireturn, 1) := by decide +kernel
theorem dX4_read_0 : decode cX4_read 0 = .ok (.iload_n 1, 1) := by decide +kernel
theorem dX4_read_1 : decode cX4_read 1 = .ok (.ifCond .eq 18, 3) := by decide +kernel
theorem dX4_read_4 : decode cX4_read 4 = .ok (.iload_n 1, 1) := by decide +kernel
theorem dX4_read_5 : decode cX4_read 5 = .ok (.iconst 1, 1) := by decide +kernel
theorem dX4_read_6 : decode cX4_read 6 = .ok (.if_icmp .eq 13, 3) := by decide +kernel
theorem dX4_read_9 : decode cX4_read 9 = .ok (.new 62, 3) := by decide +kernel
theorem dX4_read_12 : decode cX4_read 12 = .ok (.dup, 1) := by decide +kernel
theorem dX4_read_13 : decode cX4_read 13 = .ok (.ldc 69, 2) := by decide +kernel
theorem dX4_read_15 : decode cX4_read 15 = .ok (.invokespecial 66, 3) := by decide +kernel
theorem dX4_read_18 : decode cX4_read 18 = .ok (.athrow, 1) := by decide +kernel
theorem dX4_read_19 : decode cX4_read 19 = .ok (.aload_n 0, 1) := by decide +kernel
theorem dX4_read_20 : decode cX4_read 20 = .ok (.aload_n 0, 1) := by decide +kernel
theorem dX4_read_21 : decode cX4_read 21 = .ok (.getfield 22, 3) := by decide +kernel
theorem dX4_read_24 : decode cX4_read 24 = .ok (.aload_n 0, 1) := by decide +kernel
theorem dX4_read_25 : decode cX4_read 25 = .ok (.getfield 10, 3) := by decide +kernel
theorem dX4_read_28 : decode cX4_read 28 = .ok (.iload_n 1, 1) := by decide +kernel
theorem dX4_read_29 : decode cX4_read 29 = .ok (.aload_n 0, 1) := by decide +kernel
theorem dX4_read_30 : decode cX4_read 30 = .ok (.getfield 29, 3) := by decide +kernel
theorem dX4_read_33 : decode cX4_read 33 = .ok (.invokevirtual 71, 3) := by decide +kernel
theorem dX4_read_36 : decode cX4_read 36 = .ok (.putfield 44, 3) := by decide +kernel
theorem dX4_read_39 : decode cX4_read 39 = .ok (.aload_n 0, 1) := by decide +kernel
theorem dX4_read_40 : decode cX4_read 40 = .ok (.aload_n 0, 1) := by decide +kernel
theorem dX4_read_41 : decode cX4_read 41 = .ok (.getfield 44, 3) := by decide +kernel
theorem dX4_read_44 : decode cX4_read 44 = .ok (.ifCond .ne 7, 3) := by decide +kernel
theorem dX4_read_47 : decode cX4_read 47 = .ok (.iconst 1, 1) := by decide +kernel
theorem dX4_read_48 : decode cX4_read 48 = .ok (.goto 4, 3) := by decide +kernel
theorem dX4_read_51 : decode cX4_read 51 = .ok (.iconst 0, 1) := by decide +kernel
theorem dX4_read_52 : decode cX4_read 52 = .ok (.putfield 40, 3) := by decide +kernel
theorem dX4_read_55 : decode cX4_read 55 = .ok (.aload_n 0, 1) := by decide +kernel
theorem dX4_read_56 : decode cX4_read 56 = .ok (.getfield 10, 3) := by decide +kernel
theorem dX4_read_59 : decode cX4_read 59 = .ok (.iconst 0, 1) := by decide +kernel
theorem dX4_read_60 : decode cX4_read 60 = .ok (.putfield 48, 3) := by decide +kernel
theorem dX4_read_63 : decode cX4_read 63 = .ok (.aload_n 0, 1) := by decide +kernel
theorem dX4_read_64 : decode cX4_read 64 = .ok (.getfield 16, 3) := by decide +kernel
theorem dX4_read_67 : decode cX4_read 67 = .ok (.iconst 0, 1) := by decide +kernel
theorem dX4_read_68 : decode cX4_read 68 = .ok (.putfield 48, 3) := by decide +kernel
theorem dX4_read_71 : decode cX4_read 71 = .ok (.aload_n 0, 1) := by decide +kernel
theorem dX4_read_72 : decode cX4_read 72 = .ok (.getfield 40, 3) := by decide +kernel
theorem dX4_read_75 : decode cX4_read 75 = .ok (.ifCond .ne 13, 3) := by decide +kernel
theorem dX4_read_78 : decode cX4_read 78 = .ok (.new 62, 3) := by decide +kernel
theorem dX4_read_81 : decode cX4_read 81 = .ok (.dup, 1) := by decide +kernel
theorem dX4_read_82 : decode cX4_read 82 = .ok (.ldc 75, 2) := by decide +kernel
theorem dX4_read_84 : decode cX4_read 84 = .ok (.invokespecial 66, 3) := by decide +kernel
theorem dX4_read_87 : decode cX4_read 87 = .ok (.athrow, 1) := by decide +kernel
theorem dX4_read_88 : decode cX4_read 88 = .ok (.aload_n 0, 1) := by decide +kernel
theorem dX4_read_89 : decode cX4_read 89 = .ok (.iload_n 1, 1) := by decide +kernel
theorem dX4_read_90 : decode cX4_read 90 = .ok (.invokevirtual 77, 3) := by decide +kernel
theorem dX4_read_93 : decode cX4_read 93 = .ok (.aload_n 0, 1) := by decide +kernel
theorem dX4_read_94 : decode cX4_read 94 = .ok (.getfield 16, 3) := by decide +kernel
