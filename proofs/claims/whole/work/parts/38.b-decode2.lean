theorem dX5_readShort_31 : decode cX5_readShort 31 = .ok (.ireturn, 1) := by decide +kernel
theorem dX5_readZone_0 : decode cX5_readZone 0 = .ok (.aload_n 0, 1) := by decide +kernel
theorem dX5_readZone_1 : decode cX5_readZone 1 = .ok (.getfield 65, 3) := by decide +kernel
theorem dX5_readZone_4 : decode cX5_readZone 4 = .ok (.aload_n 0, 1) := by decide +kernel
theorem dX5_readZone_5 : decode cX5_readZone 5 = .ok (.getfield 33, 3) := by decide +kernel
theorem dX5_readZone_8 : decode cX5_readZone 8 = .ok (.if_icmp .ge 15, 3) := by decide +kernel
theorem dX5_readZone_11 : decode cX5_readZone 11 = .ok (.aload_n 0, 1) := by decide +kernel
theorem dX5_readZone_12 : decode cX5_readZone 12 = .ok (.getfield 7, 3) := by decide +kernel
theorem dX5_readZone_15 : decode cX5_readZone 15 = .ok (.aload_n 0, 1) := by decide +kernel
theorem dX5_readZone_16 : decode cX5_readZone 16 = .ok (.getfield 65, 3) := by decide +kernel
theorem dX5_readZone_19 : decode cX5_readZone 19 = .ok (.iaload, 1) := by decide +kernel
theorem dX5_readZone_20 : decode cX5_readZone 20 = .ok (.goto 4, 3) := by decide +kernel
theorem dX5_readZone_23 : decode cX5_readZone 23 = .ok (.iconst 0, 1) := by decide +kernel
theorem dX5_readZone_24 : decode cX5_readZone 24 = .ok (.istore_n 2, 1) := by decide +kernel
theorem dX5_readZone_25 : decode cX5_readZone 25 = .ok (.aload_n 0, 1) := by decide +kernel
theorem dX5_readZone_26 : decode cX5_readZone 26 = .ok (.dup, 1) := by decide +kernel
theorem dX5_readZone_27 : decode cX5_readZone 27 = .ok (.getfield 65, 3) := by decide +kernel
theorem dX5_readZone_30 : decode cX5_readZone 30 = .ok (.iconst 1, 1) := by decide +kernel
theorem dX5_readZone_31 : decode cX5_readZone 31 = .ok (.iadd, 1) := by decide +kernel
theorem dX5_readZone_32 : decode cX5_readZone 32 = .ok (.putfield 65, 3) := by decide +kernel
theorem dX5_readZone_35 : decode cX5_readZone 35 = .ok (.iload_n 2, 1) := by decide +kernel
theorem dX5_readZone_36 : decode cX5_readZone 36 = .ok (.bipush 90, 2) := by decide +kernel
theorem dX5_readZone_38 : decode cX5_readZone 38 = .ok (.if_icmp .ne 5, 3) := by decide +kernel
theorem dX5_readZone_41 : decode cX5_readZone 41 = .ok (.iconst 0, 1) := by decide +kernel
theorem dX5_readZone_42 : decode cX5_readZone 42 = .ok (.ireturn, 1) := by decide +kernel
theorem dX5_readZone_43 : decode cX5_readZone 43 = .ok (.aload_n 0, 1) := by decide +kernel
theorem dX5_readZone_44 : decode cX5_readZone 44 = .ok (.aload_n 0, 1) := by decide +kernel
theorem dX5_readZone_45 : decode cX5_readZone 45 = .ok (.getfield 68, 3) := by decide +kernel
theorem dX5_readZone_48 : decode cX5_readZone 48 = .ok (.ifCond .ne 15, 3) := by decide +kernel
theorem dX5_readZone_51 : decode cX5_readZone 51 = .ok (.iload_n 2, 1) := by decide +kernel
theorem dX5_readZone_52 : decode cX5_readZone 52 = .ok (.bipush 43, 2) := by decide +kernel
theorem dX5_readZone_54 : decode cX5_readZone 54 = .ok (.if_icmp .eq 13, 3) := by decide +kernel
theorem dX5_readZone_57 : decode cX5_readZone 57 = .ok (.iload_n 2, 1) := by decide +kernel
theorem dX5_readZone_58 : decode cX5_readZone 58 = .ok (.bipush 45, 2) := by decide +kernel
theorem dX5_readZone_60 : decode cX5_readZone 60 = .ok (.if_icmp .eq 7, 3) := by decide +kernel
theorem dX5_readZone_63 : decode cX5_readZone 63 = .ok (.iconst 1, 1) := by decide +kernel
theorem dX5_readZone_64 : decode cX5_readZone 64 = .ok (.goto 4, 3) := by decide +kernel
theorem dX5_readZone_67 : decode cX5_readZone 67 = .ok (.iconst 0, 1) := by decide +kernel
theorem dX5_readZone_68 : decode cX5_readZone 68 = .ok (.putfield 68, 3) := by decide +kernel
theorem dX5_readZone_71 : decode cX5_readZone 71 = .ok (.sipush 3600, 3) := by decide +kernel
theorem dX5_readZone_74 : decode cX5_readZone 74 = .ok (.aload_n 0, 1) := by decide +kernel
theorem dX5_readZone_75 : decode cX5_readZone 75 = .ok (.iconst 0, 1) := by decide +kernel
theorem dX5_readZone_76 : decode cX5_readZone 76 = .ok (.bipush 23, 2) := by decide +kernel
theorem dX5_readZone_78 : decode cX5_readZone 78 = .ok (.invokevirtual 82, 3) := by decide +kernel
theorem dX5_readZone_81 : decode cX5_readZone 81 = .ok (.imul, 1) := by decide +kernel
theorem dX5_readZone_82 : decode cX5_readZone 82 = .ok (.istore_n 3, 1) := by decide +kernel
theorem dX5_readZone_83 : decode cX5_readZone 83 = .ok (.iload_n 1, 1) := by decide +kernel
theorem dX5_readZone_84 : decode cX5_readZone 84 = .ok (.ifCond .eq 10, 3) := by decide +kernel
theorem dX5_readZone_87 : decode cX5_readZone 87 = .ok (.aload_n 0, 1) := by decide +kernel
theorem dX5_readZone_88 : decode cX5_readZone 88 = .ok (.invokevirtual 72, 3) := by decide +kernel
theorem dX5_readZone_91 : decode cX5_readZone 91 = .ok (.ifCond .eq 16, 3) := by decide +kernel
theorem dX5_readZone_94 : decode cX5_readZone 94 = .ok (.iload_n 3, 1) := by decide +kernel
theorem dX5_readZone_95 : decode cX5_readZone 95 = .ok (.bipush 60, 2) := by decide +kernel
theorem dX5_readZone_97 : decode cX5_readZone 97 = .ok (.aload_n 0, 1) := by decide +kernel
theorem dX5_readZone_98 : decode cX5_readZone 98 = .ok (.iconst 0, 1) := by decide +kernel
theorem dX5_readZone_99 : decode cX5_readZone 99 = .ok (.bipush 59, 2) := by decide +kernel
theorem dX5_readZone_101 : decode cX5_readZone 101 = .ok (.invokevirtual 82, 3) := by decide +kernel
theorem dX5_readZone_104 : decode cX5_readZone 104 = .ok (.imul, 1) := by decide +kernel
theorem dX5_readZone_105 : decode cX5_readZone 105 = .ok (.iadd, 1) := by decide +kernel
theorem dX5_readZone_106 : decode cX5_readZone 106 = .ok (.istore_n 3, 1) := by decide +kernel
theorem dX5_readZone_107 : decode cX5_readZone 107 = .ok (.iload_n 2, 1) := by decide +kernel
theorem dX5_readZone_108 : decode cX5_readZone 108 = .ok (.bipush 43, 2) := by decide +kernel
theorem dX5_readZone_110 : decode cX5_readZone 110 = .ok (.if_icmp .ne 7, 3) := by decide +kernel
theorem dX5_readZone_113 : decode cX5_readZone 113 = .ok (.iload_n 3, 1) := by decide +kernel
theorem dX5_readZone_114 : decode cX5_readZone 114 = .ok (.goto 6, 3) := by decide +kernel
theorem dX5_readZone_117 : decode cX5_readZone 117 = .ok (.iconst 0, 1) := by decide +kernel
theorem dX5_readZone_118 : decode cX5_readZone 118 = .ok (.iload_n 3, 1) := by decide +kernel
theorem dX5_readZone_119 : decode cX5_readZone 119 = .ok (.isub, 1) := by decide +kernel
theorem dX5_readZone_120 : decode cX5_readZone 120 = .ok (.ireturn, 1) := by decide +kernel
theorem dX5_thrown_0 : decode cX5_thrown 0 = .ok (.aload_n 0, 1) := by decide +kernel
theorem dX5_thrown_1 : decode cX5_thrown 1 = .ok (.getfield 29, 3) := by decide +kernel
theorem dX5_thrown_4 : decode cX5_thrown 4 = .ok (.ireturn, 1) := by decide +kernel
theorem dX5_two_0 : decode cX5_two 0 = .ok (.aload_n 0, 1) := by decide +kernel
theorem dX5_two_1 : decode cX5_two 1 = .ok (.iconst 2, 1) := by decide +kernel
theorem dX5_two_2 : decode cX5_two 2 = .ok (.invokevirtual 76, 3) := by decide +kernel
theorem dX5_two_5 : decode cX5_two 5 = .ok (.istore_n 3, 1) := by decide +kernel
theorem dX5_two_6 : decode cX5_two 6 = .ok (.aload_n 0, 1) := by decide +kernel
theorem dX5_two_7 : decode cX5_two 7 = .ok (.aload_n 0, 1) := by decide +kernel
theorem dX5_two_8 : decode cX5_two 8 = .ok (.getfield 68, 3) := by decide +kernel
theorem dX5_two_11 : decode cX5_two 11 = .ok (.ifCond .ne 13, 3) := by decide +kernel
theorem dX5_two_14 : decode cX5_two 14 = .ok (.iload_n 3, 1) := by decide +kernel
theorem dX5_two_15 : decode cX5_two 15 = .ok (.iload_n 1, 1) := by decide +kernel
theorem dX5_two_16 : decode cX5_two 16 = .ok (.if_icmp .lt 8, 3) := by decide +kernel
theorem dX5_two_19 : decode cX5_two 19 = .ok (.iload_n 3, 1) := by decide +kernel
theorem dX5_two_20 : decode cX5_two 20 = .ok (.iload_n 2, 1) := by decide +kernel
theorem dX5_two_21 : decode cX5_two 21 = .ok (.if_icmp .le 7, 3) := by decide +kernel
theorem dX5_two_24 : decode cX5_two 24 = .ok (.iconst 1, 1) := by decide +kernel
theorem dX5_two_25 : decode cX5_two 25 = .ok (.goto 4, 3) := by decide +kernel
theorem dX5_two_28 : decode cX5_two 28 = .ok (.iconst 0, 1) := by decide +kernel
theorem dX5_two_29 : decode cX5_two 29 = .ok (.putfield 68, 3) := by decide +kernel
theorem dX5_two_32 : decode cX5_two 32 = .ok (.aload_n 0, 1) := by decide +kernel
theorem dX5_two_33 : decode cX5_two 33 = .ok (.getfield 68, 3) := by decide +kernel
theorem dX5_two_36 : decode cX5_two 36 = .ok (.ifCond .eq 7, 3) := by decide +kernel
theorem dX5_two_39 : decode cX5_two 39 = .ok (.iload_n 1, 1) := by decide +kernel
theorem dX5_two_40 : decode cX5_two 40 = .ok (.goto 4, 3) := by decide +kernel
theorem dX5_two_43 : decode cX5_two 43 = .ok (.iload_n 3, 1) := by decide +kernel
theorem dX5_two_44 : decode cX5_two 44 = .ok (.ireturn, 1) := by decide +kernel
theorem dX5_yearOf_0 : decode cX5_yearOf 0 = .ok (.iload_n 0, 1) := by decide +kernel
theorem dX5_yearOf_1 : decode cX5_yearOf 1 = .ok (.sipush 366, 3) := by decide +kernel
theorem dX5_yearOf_4 : decode cX5_yearOf 4 = .ok (.idiv, 1) := by decide +kernel
theorem dX5_yearOf_5 : decode cX5_yearOf 5 = .ok (.istore_n 1, 1) := by decide +kernel
theorem dX5_yearOf_6 : decode cX5_yearOf 6 = .ok (.iload_n 1, 1) := by decide +kernel
theorem dX5_yearOf_7 : decode cX5_yearOf 7 = .ok (.iconst 1, 1) := by decide +kernel
theorem dX5_yearOf_8 : decode cX5_yearOf 8 = .ok (.iadd, 1) := by decide +kernel
theorem dX5_yearOf_9 : decode cX5_yearOf 9 = .ok (.invokestatic 44, 3) := by decide +kernel
theorem dX5_yearOf_12 : decode cX5_yearOf 12 = .ok (.iload_n 0, 1) := by decide +kernel
theorem dX5_yearOf_13 : decode cX5_yearOf 13 = .ok (.if_icmp .gt 9, 3) := by decide +kernel
theorem dX5_yearOf_16 : decode cX5_yearOf 16 = .ok (.iinc 1 1, 3) := by decide +kernel
theorem dX5_yearOf_19 : decode cX5_yearOf 19 = .ok (.goto (-13), 3) := by decide +kernel
theorem dX5_yearOf_22 : decode cX5_yearOf 22 = .ok (.iload_n 1, 1) := by decide +kernel
theorem dX5_yearOf_23 : decode cX5_yearOf 23 = .ok (.ireturn, 1) := by decide +kernel
theorem dX5_yearOfText_0 : decode cX5_yearOfText 0 = .ok (.iload_n 1, 1) := by decide +kernel
theorem dX5_yearOfText_1 : decode cX5_yearOfText 1 = .ok (.ifCond .eq 9, 3) := by decide +kernel
theorem dX5_yearOfText_4 : decode cX5_yearOfText 4 = .ok (.aload_n 0, 1) := by decide +kernel
theorem dX5_yearOfText_5 : decode cX5_yearOfText 5 = .ok (.iconst 4, 1) := by decide +kernel
theorem dX5_yearOfText_6 : decode cX5_yearOfText 6 = .ok (.invokevirtual 76, 3) := by decide +kernel
theorem dX5_yearOfText_9 : decode cX5_yearOfText 9 = .ok (.ireturn, 1) := by decide +kernel
theorem dX5_yearOfText_10 : decode cX5_yearOfText 10 = .ok (.aload_n 0, 1) := by decide +kernel
theorem dX5_yearOfText_11 : decode cX5_yearOfText 11 = .ok (.iconst 2, 1) := by decide +kernel
theorem dX5_yearOfText_12 : decode cX5_yearOfText 12 = .ok (.invokevirtual 76, 3) := by decide +kernel
theorem dX5_yearOfText_15 : decode cX5_yearOfText 15 = .ok (.istore_n 2, 1) := by decide +kernel
theorem dX5_yearOfText_16 : decode cX5_yearOfText 16 = .ok (.iload_n 2, 1) := by decide +kernel
theorem dX5_yearOfText_17 : decode cX5_yearOfText 17 = .ok (.bipush 50, 2) := by decide +kernel
theorem dX5_yearOfText_19 : decode cX5_yearOfText 19 = .ok (.if_icmp .ge 11, 3) := by decide +kernel
theorem dX5_yearOfText_22 : decode cX5_yearOfText 22 = .ok (.sipush 2000, 3) := by decide +kernel
theorem dX5_yearOfText_25 : decode cX5_yearOfText 25 = .ok (.iload_n 2, 1) := by decide +kernel
theorem dX5_yearOfText_26 : decode cX5_yearOfText 26 = .ok (.iadd, 1) := by decide +kernel
theorem dX5_yearOfText_27 : decode cX5_yearOfText 27 = .ok (.goto 8, 3) := by decide +kernel
theorem dX5_yearOfText_30 : decode cX5_yearOfText 30 = .ok (.sipush 1900, 3) := by decide +kernel
theorem dX5_yearOfText_33 : decode cX5_yearOfText 33 = .ok (.iload_n 2, 1) := by decide +kernel
theorem dX5_yearOfText_34 : decode cX5_yearOfText 34 = .ok (.iadd, 1) := by decide +kernel
theorem dX5_yearOfText_35 : decode cX5_yearOfText 35 = .ok (.ireturn, 1) := by decide +kernel
