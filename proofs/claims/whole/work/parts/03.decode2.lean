theorem dX2_goDayOn_45 : decode cX2_goDayOn 45 = .ok (.getfield 41, 3) := by decide +kernel
theorem dX2_goDayOn_48 : decode cX2_goDayOn 48 = .ok (.bipush 12, 2) := by decide +kernel
theorem dX2_goDayOn_50 : decode cX2_goDayOn 50 = .ok (.if_icmp .le 18, 3) := by decide +kernel
theorem dX2_goDayOn_53 : decode cX2_goDayOn 53 = .ok (.aload_n 0, 1) := by decide +kernel
theorem dX2_goDayOn_54 : decode cX2_goDayOn 54 = .ok (.iconst 1, 1) := by decide +kernel
theorem dX2_goDayOn_55 : decode cX2_goDayOn 55 = .ok (.putfield 41, 3) := by decide +kernel
theorem dX2_goDayOn_58 : decode cX2_goDayOn 58 = .ok (.aload_n 0, 1) := by decide +kernel
theorem dX2_goDayOn_59 : decode cX2_goDayOn 59 = .ok (.dup, 1) := by decide +kernel
theorem dX2_goDayOn_60 : decode cX2_goDayOn 60 = .ok (.getfield 44, 3) := by decide +kernel
theorem dX2_goDayOn_63 : decode cX2_goDayOn 63 = .ok (.iconst 1, 1) := by decide +kernel
theorem dX2_goDayOn_64 : decode cX2_goDayOn 64 = .ok (.iadd, 1) := by decide +kernel
theorem dX2_goDayOn_65 : decode cX2_goDayOn 65 = .ok (.putfield 44, 3) := by decide +kernel
theorem dX2_goDayOn_68 : decode cX2_goDayOn 68 = .ok (.return_, 1) := by decide +kernel
theorem dX2_moveBy_0 : decode cX2_moveBy 0 = .ok (.aload_n 0, 1) := by decide +kernel
theorem dX2_moveBy_1 : decode cX2_moveBy 1 = .ok (.getfield 29, 3) := by decide +kernel
theorem dX2_moveBy_4 : decode cX2_moveBy 4 = .ok (.bipush 60, 2) := by decide +kernel
theorem dX2_moveBy_6 : decode cX2_moveBy 6 = .ok (.imul, 1) := by decide +kernel
theorem dX2_moveBy_7 : decode cX2_moveBy 7 = .ok (.aload_n 0, 1) := by decide +kernel
theorem dX2_moveBy_8 : decode cX2_moveBy 8 = .ok (.getfield 15, 3) := by decide +kernel
theorem dX2_moveBy_11 : decode cX2_moveBy 11 = .ok (.iadd, 1) := by decide +kernel
theorem dX2_moveBy_12 : decode cX2_moveBy 12 = .ok (.iload_n 1, 1) := by decide +kernel
theorem dX2_moveBy_13 : decode cX2_moveBy 13 = .ok (.iadd, 1) := by decide +kernel
theorem dX2_moveBy_14 : decode cX2_moveBy 14 = .ok (.istore_n 2, 1) := by decide +kernel
theorem dX2_moveBy_15 : decode cX2_moveBy 15 = .ok (.iload_n 2, 1) := by decide +kernel
theorem dX2_moveBy_16 : decode cX2_moveBy 16 = .ok (.ifCond .ge 16, 3) := by decide +kernel
theorem dX2_moveBy_19 : decode cX2_moveBy 19 = .ok (.aload_n 0, 1) := by decide +kernel
theorem dX2_moveBy_20 : decode cX2_moveBy 20 = .ok (.invokevirtual 32, 3) := by decide +kernel
theorem dX2_moveBy_23 : decode cX2_moveBy 23 = .ok (.iinc 2 1440, 6) := by decide +kernel
theorem dX2_moveBy_29 : decode cX2_moveBy 29 = .ok (.goto 20, 3) := by decide +kernel
theorem dX2_moveBy_32 : decode cX2_moveBy 32 = .ok (.iload_n 2, 1) := by decide +kernel
theorem dX2_moveBy_33 : decode cX2_moveBy 33 = .ok (.sipush 1440, 3) := by decide +kernel
theorem dX2_moveBy_36 : decode cX2_moveBy 36 = .ok (.if_icmp .lt 13, 3) := by decide +kernel
theorem dX2_moveBy_39 : decode cX2_moveBy 39 = .ok (.aload_n 0, 1) := by decide +kernel
theorem dX2_moveBy_40 : decode cX2_moveBy 40 = .ok (.invokevirtual 35, 3) := by decide +kernel
theorem dX2_moveBy_43 : decode cX2_moveBy 43 = .ok (.iinc 2 (-1440), 6) := by decide +kernel
theorem dX2_moveBy_49 : decode cX2_moveBy 49 = .ok (.aload_n 0, 1) := by decide +kernel
theorem dX2_moveBy_50 : decode cX2_moveBy 50 = .ok (.iload_n 2, 1) := by decide +kernel
theorem dX2_moveBy_51 : decode cX2_moveBy 51 = .ok (.bipush 60, 2) := by decide +kernel
theorem dX2_moveBy_53 : decode cX2_moveBy 53 = .ok (.idiv, 1) := by decide +kernel
theorem dX2_moveBy_54 : decode cX2_moveBy 54 = .ok (.putfield 29, 3) := by decide +kernel
theorem dX2_moveBy_57 : decode cX2_moveBy 57 = .ok (.aload_n 0, 1) := by decide +kernel
theorem dX2_moveBy_58 : decode cX2_moveBy 58 = .ok (.iload_n 2, 1) := by decide +kernel
theorem dX2_moveBy_59 : decode cX2_moveBy 59 = .ok (.bipush 60, 2) := by decide +kernel
theorem dX2_moveBy_61 : decode cX2_moveBy 61 = .ok (.irem, 1) := by decide +kernel
theorem dX2_moveBy_62 : decode cX2_moveBy 62 = .ok (.putfield 15, 3) := by decide +kernel
theorem dX2_moveBy_65 : decode cX2_moveBy 65 = .ok (.return_, 1) := by decide +kernel
theorem dX2_spreadPartOf_0 : decode cX2_spreadPartOf 0 = .ok (.iload_n 1, 1) := by decide +kernel
theorem dX2_spreadPartOf_1 : decode cX2_spreadPartOf 1 = .ok (.iconst 1, 1) := by decide +kernel
theorem dX2_spreadPartOf_2 : decode cX2_spreadPartOf 2 = .ok (.if_icmp .ne 11, 3) := by decide +kernel
theorem dX2_spreadPartOf_5 : decode cX2_spreadPartOf 5 = .ok (.aload_n 0, 1) := by decide +kernel
theorem dX2_spreadPartOf_6 : decode cX2_spreadPartOf 6 = .ok (.aload_n 0, 1) := by decide +kernel
theorem dX2_spreadPartOf_7 : decode cX2_spreadPartOf 7 = .ok (.invokevirtual 25, 3) := by decide +kernel
theorem dX2_spreadPartOf_10 : decode cX2_spreadPartOf 10 = .ok (.putfield 15, 3) := by decide +kernel
theorem dX2_spreadPartOf_13 : decode cX2_spreadPartOf 13 = .ok (.iload_n 1, 1) := by decide +kernel
theorem dX2_spreadPartOf_14 : decode cX2_spreadPartOf 14 = .ok (.iconst 3, 1) := by decide +kernel
theorem dX2_spreadPartOf_15 : decode cX2_spreadPartOf 15 = .ok (.if_icmp .eq 11, 3) := by decide +kernel
theorem dX2_spreadPartOf_18 : decode cX2_spreadPartOf 18 = .ok (.aload_n 0, 1) := by decide +kernel
theorem dX2_spreadPartOf_19 : decode cX2_spreadPartOf 19 = .ok (.aload_n 0, 1) := by decide +kernel
theorem dX2_spreadPartOf_20 : decode cX2_spreadPartOf 20 = .ok (.invokevirtual 25, 3) := by decide +kernel
theorem dX2_spreadPartOf_23 : decode cX2_spreadPartOf 23 = .ok (.putfield 19, 3) := by decide +kernel
theorem dX2_spreadPartOf_26 : decode cX2_spreadPartOf 26 = .ok (.aload_n 0, 1) := by decide +kernel
theorem dX2_spreadPartOf_27 : decode cX2_spreadPartOf 27 = .ok (.getfield 22, 3) := by decide +kernel
theorem dX2_spreadPartOf_30 : decode cX2_spreadPartOf 30 = .ok (.ifCond .le 30, 3) := by decide +kernel
theorem dX2_spreadPartOf_33 : decode cX2_spreadPartOf 33 = .ok (.aload_n 0, 1) := by decide +kernel
theorem dX2_spreadPartOf_34 : decode cX2_spreadPartOf 34 = .ok (.getfield 9, 3) := by decide +kernel
theorem dX2_spreadPartOf_37 : decode cX2_spreadPartOf 37 = .ok (.aload_n 0, 1) := by decide +kernel
theorem dX2_spreadPartOf_38 : decode cX2_spreadPartOf 38 = .ok (.getfield 22, 3) := by decide +kernel
theorem dX2_spreadPartOf_41 : decode cX2_spreadPartOf 41 = .ok (.iconst 1, 1) := by decide +kernel
theorem dX2_spreadPartOf_42 : decode cX2_spreadPartOf 42 = .ok (.isub, 1) := by decide +kernel
theorem dX2_spreadPartOf_43 : decode cX2_spreadPartOf 43 = .ok (.baload, 1) := by decide +kernel
theorem dX2_spreadPartOf_44 : decode cX2_spreadPartOf 44 = .ok (.ifCond .ne 16, 3) := by decide +kernel
theorem dX2_spreadPartOf_47 : decode cX2_spreadPartOf 47 = .ok (.aload_n 0, 1) := by decide +kernel
theorem dX2_spreadPartOf_48 : decode cX2_spreadPartOf 48 = .ok (.dup, 1) := by decide +kernel
theorem dX2_spreadPartOf_49 : decode cX2_spreadPartOf 49 = .ok (.getfield 22, 3) := by decide +kernel
theorem dX2_spreadPartOf_52 : decode cX2_spreadPartOf 52 = .ok (.iconst 1, 1) := by decide +kernel
theorem dX2_spreadPartOf_53 : decode cX2_spreadPartOf 53 = .ok (.isub, 1) := by decide +kernel
theorem dX2_spreadPartOf_54 : decode cX2_spreadPartOf 54 = .ok (.putfield 22, 3) := by decide +kernel
theorem dX2_spreadPartOf_57 : decode cX2_spreadPartOf 57 = .ok (.goto (-31), 3) := by decide +kernel
theorem dX2_spreadPartOf_60 : decode cX2_spreadPartOf 60 = .ok (.return_, 1) := by decide +kernel
theorem dX2_takeSixtiethsOfPart_0 : decode cX2_takeSixtiethsOfPart 0 = .ok (.iconst 0, 1) := by decide +kernel
theorem dX2_takeSixtiethsOfPart_1 : decode cX2_takeSixtiethsOfPart 1 = .ok (.istore_n 1, 1) := by decide +kernel
theorem dX2_takeSixtiethsOfPart_2 : decode cX2_takeSixtiethsOfPart 2 = .ok (.aload_n 0, 1) := by decide +kernel
theorem dX2_takeSixtiethsOfPart_3 : decode cX2_takeSixtiethsOfPart 3 = .ok (.getfield 22, 3) := by decide +kernel
theorem dX2_takeSixtiethsOfPart_6 : decode cX2_takeSixtiethsOfPart 6 = .ok (.iconst 1, 1) := by decide +kernel
theorem dX2_takeSixtiethsOfPart_7 : decode cX2_takeSixtiethsOfPart 7 = .ok (.isub, 1) := by decide +kernel
theorem dX2_takeSixtiethsOfPart_8 : decode cX2_takeSixtiethsOfPart 8 = .ok (.istore_n 2, 1) := by decide +kernel
theorem dX2_takeSixtiethsOfPart_9 : decode cX2_takeSixtiethsOfPart 9 = .ok (.iload_n 2, 1) := by decide +kernel
theorem dX2_takeSixtiethsOfPart_10 : decode cX2_takeSixtiethsOfPart 10 = .ok (.ifCond .lt 37, 3) := by decide +kernel
theorem dX2_takeSixtiethsOfPart_13 : decode cX2_takeSixtiethsOfPart 13 = .ok (.aload_n 0, 1) := by decide +kernel
theorem dX2_takeSixtiethsOfPart_14 : decode cX2_takeSixtiethsOfPart 14 = .ok (.getfield 9, 3) := by decide +kernel
theorem dX2_takeSixtiethsOfPart_17 : decode cX2_takeSixtiethsOfPart 17 = .ok (.iload_n 2, 1) := by decide +kernel
theorem dX2_takeSixtiethsOfPart_18 : decode cX2_takeSixtiethsOfPart 18 = .ok (.baload, 1) := by decide +kernel
theorem dX2_takeSixtiethsOfPart_19 : decode cX2_takeSixtiethsOfPart 19 = .ok (.bipush 60, 2) := by decide +kernel
theorem dX2_takeSixtiethsOfPart_21 : decode cX2_takeSixtiethsOfPart 21 = .ok (.imul, 1) := by decide +kernel
theorem dX2_takeSixtiethsOfPart_22 : decode cX2_takeSixtiethsOfPart 22 = .ok (.iload_n 1, 1) := by decide +kernel
theorem dX2_takeSixtiethsOfPart_23 : decode cX2_takeSixtiethsOfPart 23 = .ok (.iadd, 1) := by decide +kernel
theorem dX2_takeSixtiethsOfPart_24 : decode cX2_takeSixtiethsOfPart 24 = .ok (.istore_n 3, 1) := by decide +kernel
theorem dX2_takeSixtiethsOfPart_25 : decode cX2_takeSixtiethsOfPart 25 = .ok (.aload_n 0, 1) := by decide +kernel
theorem dX2_takeSixtiethsOfPart_26 : decode cX2_takeSixtiethsOfPart 26 = .ok (.getfield 9, 3) := by decide +kernel
theorem dX2_takeSixtiethsOfPart_29 : decode cX2_takeSixtiethsOfPart 29 = .ok (.iload_n 2, 1) := by decide +kernel
theorem dX2_takeSixtiethsOfPart_30 : decode cX2_takeSixtiethsOfPart 30 = .ok (.iload_n 3, 1) := by decide +kernel
theorem dX2_takeSixtiethsOfPart_31 : decode cX2_takeSixtiethsOfPart 31 = .ok (.bipush 10, 2) := by decide +kernel
theorem dX2_takeSixtiethsOfPart_33 : decode cX2_takeSixtiethsOfPart 33 = .ok (.irem, 1) := by decide +kernel
theorem dX2_takeSixtiethsOfPart_34 : decode cX2_takeSixtiethsOfPart 34 = .ok (.i2b, 1) := by decide +kernel
theorem dX2_takeSixtiethsOfPart_35 : decode cX2_takeSixtiethsOfPart 35 = .ok (.bastore, 1) := by decide +kernel
theorem dX2_takeSixtiethsOfPart_36 : decode cX2_takeSixtiethsOfPart 36 = .ok (.iload_n 3, 1) := by decide +kernel
theorem dX2_takeSixtiethsOfPart_37 : decode cX2_takeSixtiethsOfPart 37 = .ok (.bipush 10, 2) := by decide +kernel
theorem dX2_takeSixtiethsOfPart_39 : decode cX2_takeSixtiethsOfPart 39 = .ok (.idiv, 1) := by decide +kernel
theorem dX2_takeSixtiethsOfPart_40 : decode cX2_takeSixtiethsOfPart 40 = .ok (.istore_n 1, 1) := by decide +kernel
theorem dX2_takeSixtiethsOfPart_41 : decode cX2_takeSixtiethsOfPart 41 = .ok (.iinc 2 (-1), 3) := by decide +kernel
theorem dX2_takeSixtiethsOfPart_44 : decode cX2_takeSixtiethsOfPart 44 = .ok (.goto (-35), 3) := by decide +kernel
theorem dX2_takeSixtiethsOfPart_47 : decode cX2_takeSixtiethsOfPart 47 = .ok (.iload_n 1, 1) := by decide +kernel
theorem dX2_takeSixtiethsOfPart_48 : decode cX2_takeSixtiethsOfPart 48 = .ok (.ireturn, 1) := by decide +kernel
theorem dX2_wholeSeconds_0 : decode cX2_wholeSeconds 0 = .ok (.aload_n 0, 1) := by decide +kernel
theorem dX2_wholeSeconds_1 : decode cX2_wholeSeconds 1 = .ok (.invokevirtual 59, 3) := by decide +kernel
theorem dX2_wholeSeconds_4 : decode cX2_wholeSeconds 4 = .ok (.i2l, 1) := by decide +kernel
theorem dX2_wholeSeconds_5 : decode cX2_wholeSeconds 5 = .ok (.ldc2_w 62, 3) := by decide +kernel
theorem dX2_wholeSeconds_8 : decode cX2_wholeSeconds 8 = .ok (.lmul, 1) := by decide +kernel
theorem dX2_wholeSeconds_9 : decode cX2_wholeSeconds 9 = .ok (.aload_n 0, 1) := by decide +kernel
theorem dX2_wholeSeconds_10 : decode cX2_wholeSeconds 10 = .ok (.getfield 29, 3) := by decide +kernel
theorem dX2_wholeSeconds_13 : decode cX2_wholeSeconds 13 = .ok (.sipush 3600, 3) := by decide +kernel
theorem dX2_wholeSeconds_16 : decode cX2_wholeSeconds 16 = .ok (.imul, 1) := by decide +kernel
theorem dX2_wholeSeconds_17 : decode cX2_wholeSeconds 17 = .ok (.i2l, 1) := by decide +kernel
theorem dX2_wholeSeconds_18 : decode cX2_wholeSeconds 18 = .ok (.ladd, 1) := by decide +kernel
theorem dX2_wholeSeconds_19 : decode cX2_wholeSeconds 19 = .ok (.aload_n 0, 1) := by decide +kernel
theorem dX2_wholeSeconds_20 : decode cX2_wholeSeconds 20 = .ok (.getfield 15, 3) := by decide +kernel
theorem dX2_wholeSeconds_23 : decode cX2_wholeSeconds 23 = .ok (.bipush 60, 2) := by decide +kernel
theorem dX2_wholeSeconds_25 : decode cX2_wholeSeconds 25 = .ok (.imul, 1) := by decide +kernel
theorem dX2_wholeSeconds_26 : decode cX2_wholeSeconds 26 = .ok (.i2l, 1) := by decide +kernel
theorem dX2_wholeSeconds_27 : decode cX2_wholeSeconds 27 = .ok (.ladd, 1) := by decide +kernel
theorem dX2_wholeSeconds_28 : decode cX2_wholeSeconds 28 = .ok (.aload_n 0, 1) := by decide +kernel
theorem dX2_wholeSeconds_29 : decode cX2_wholeSeconds 29 = .ok (.getfield 19, 3) := by decide +kernel
theorem dX2_wholeSeconds_32 : decode cX2_wholeSeconds 32 = .ok (.i2l, 1) := by decide +kernel
theorem dX2_wholeSeconds_33 : decode cX2_wholeSeconds 33 = .ok (.ladd, 1) := by decide +kernel
theorem dX2_wholeSeconds_34 : decode cX2_wholeSeconds 34 = .ok (.lreturn, 1) := by decide +kernel
theorem dX3_init_0 : decode cX3_init 0 = .ok (.aload_n 0, 1) := by decide +kernel
theorem dX3_init_1 : decode cX3_init 1 = .ok (.invokespecial 3, 3) := by decide +kernel
theorem dX3_init_4 : decode cX3_init 4 = .ok (.return_, 1) := by decide +kernel
theorem dX3_faultOf_0 : decode cX3_faultOf 0 = .ok (.aload_n 0, 1) := by decide +kernel
theorem dX3_faultOf_1 : decode cX3_faultOf 1 = .ok (.iconst 0, 1) := by decide +kernel
theorem dX3_faultOf_2 : decode cX3_faultOf 2 = .ok (.putfield 9, 3) := by decide +kernel
theorem dX3_faultOf_5 : decode cX3_faultOf 5 = .ok (.aload_n 0, 1) := by decide +kernel
theorem dX3_faultOf_6 : decode cX3_faultOf 6 = .ok (.iconst 0, 1) := by decide +kernel
theorem dX3_faultOf_7 : decode cX3_faultOf 7 = .ok (.putfield 15, 3) := by decide +kernel
theorem dX3_faultOf_10 : decode cX3_faultOf 10 = .ok (.aload_n 3, 1) := by decide +kernel
theorem dX3_faultOf_11 : decode cX3_faultOf 11 = .ok (.invokevirtual 18, 3) := by decide +kernel
theorem dX3_faultOf_14 : decode cX3_faultOf 14 = .ok (.aload_n 0, 1) := by decide +kernel
theorem dX3_faultOf_15 : decode cX3_faultOf 15 = .ok (.aload_n 1, 1) := by decide +kernel
theorem dX3_faultOf_16 : decode cX3_faultOf 16 = .ok (.iload_n 2, 1) := by decide +kernel
theorem dX3_faultOf_17 : decode cX3_faultOf 17 = .ok (.aload_n 3, 1) := by decide +kernel
theorem dX3_faultOf_18 : decode cX3_faultOf 18 = .ok (.invokevirtual 23, 3) := by decide +kernel
theorem dX3_faultOf_21 : decode cX3_faultOf 21 = .ok (.ifCond .eq 13, 3) := by decide +kernel
theorem dX3_faultOf_24 : decode cX3_faultOf 24 = .ok (.aload_n 0, 1) := by decide +kernel
theorem dX3_faultOf_25 : decode cX3_faultOf 25 = .ok (.aload_n 1, 1) := by decide +kernel
theorem dX3_faultOf_26 : decode cX3_faultOf 26 = .ok (.iload_n 2, 1) := by decide +kernel
theorem dX3_faultOf_27 : decode cX3_faultOf 27 = .ok (.aload_n 3, 1) := by decide +kernel
theorem dX3_faultOf_28 : decode cX3_faultOf 28 = .ok (.invokevirtual 27, 3) := by decide +kernel
theorem dX3_faultOf_31 : decode cX3_faultOf 31 = .ok (.ifCond .ne 5, 3) := by decide +kernel
theorem dX3_faultOf_34 : decode cX3_faultOf 34 = .ok (.iconst 1, 1) := by decide +kernel
theorem dX3_faultOf_35 : decode cX3_faultOf 35 = .ok (.ireturn, 1) := by decide +kernel
theorem dX3_faultOf_36 : decode cX3_faultOf 36 = .ok (.iload_n 2, 1) := by decide +kernel
theorem dX3_faultOf_37 : decode cX3_faultOf 37 = .ok (.iconst 1, 1) := by decide +kernel
theorem dX3_faultOf_38 : decode cX3_faultOf 38 = .ok (.if_icmp .ne 16, 3) := by decide +kernel
theorem dX3_faultOf_41 : decode cX3_faultOf 41 = .ok (.aload_n 0, 1) := by decide +kernel
theorem dX3_faultOf_42 : decode cX3_faultOf 42 = .ok (.getfield 9, 3) := by decide +kernel
theorem dX3_faultOf_45 : decode cX3_faultOf 45 = .ok (.aload_n 1, 1) := by decide +kernel
theorem dX3_faultOf_46 : decode cX3_faultOf 46 = .ok (.getfield 30, 3) := by decide +kernel
theorem dX3_faultOf_49 : decode cX3_faultOf 49 = .ok (.if_icmp .ne 5, 3) := by decide +kernel
theorem dX3_faultOf_52 : decode cX3_faultOf 52 = .ok (.iconst 2, 1) := by decide +kernel
theorem dX3_faultOf_53 : decode cX3_faultOf 53 = .ok (.ireturn, 1) := by decide +kernel
theorem dX3_faultOf_54 : decode cX3_faultOf 54 = .ok (.aload_n 0, 1) := by decide +kernel
theorem dX3_faultOf_55 : decode cX3_faultOf 55 = .ok (.aload_n 1, 1) := by decide +kernel
theorem dX3_faultOf_56 : decode cX3_faultOf 56 = .ok (.iload_n 2, 1) := by decide +kernel
theorem dX3_faultOf_57 : decode cX3_faultOf 57 = .ok (.invokevirtual 35, 3) := by decide +kernel
theorem dX3_faultOf_60 : decode cX3_faultOf 60 = .ok (.ifCond .eq 14, 3) := by decide +kernel
theorem dX3_faultOf_63 : decode cX3_faultOf 63 = .ok (.aload_n 0, 1) := by decide +kernel
theorem dX3_faultOf_64 : decode cX3_faultOf 64 = .ok (.getfield 9, 3) := by decide +kernel
theorem dX3_faultOf_67 : decode cX3_faultOf 67 = .ok (.aload_n 1, 1) := by decide +kernel
theorem dX3_faultOf_68 : decode cX3_faultOf 68 = .ok (.getfield 30, 3) := by decide +kernel
theorem dX3_faultOf_71 : decode cX3_faultOf 71 = .ok (.if_icmp .eq 5, 3) := by decide +kernel
theorem dX3_faultOf_74 : decode cX3_faultOf 74 = .ok (.iconst 1, 1) := by decide +kernel
theorem dX3_faultOf_75 : decode cX3_faultOf 75 = .ok (.ireturn, 1) := by decide +kernel
theorem dX3_faultOf_76 : decode cX3_faultOf 76 = .ok (.aload_n 3, 1) := by decide +kernel
theorem dX3_faultOf_77 : decode cX3_faultOf 77 = .ok (.aload_n 0, 1) := by decide +kernel
theorem dX3_faultOf_78 : decode cX3_faultOf 78 = .ok (.getfield 15, 3) := by decide +kernel
theorem dX3_faultOf_81 : decode cX3_faultOf 81 = .ok (.ineg, 1) := by decide +kernel
theorem dX3_faultOf_82 : decode cX3_faultOf 82 = .ok (.invokevirtual 39, 3) := by decide +kernel
theorem dX3_faultOf_85 : decode cX3_faultOf 85 = .ok (.iload_n 2, 1) := by decide +kernel
theorem dX3_faultOf_86 : decode cX3_faultOf 86 = .ok (.aload_n 3, 1) := by decide +kernel
theorem dX3_faultOf_87 : decode cX3_faultOf 87 = .ok (.getfield 43, 3) := by decide +kernel
theorem dX3_faultOf_90 : decode cX3_faultOf 90 = .ok (.invokestatic 46, 3) := by decide +kernel
theorem dX3_faultOf_93 : decode cX3_faultOf 93 = .ok (.ifCond .eq 7, 3) := by decide +kernel
theorem dX3_faultOf_96 : decode cX3_faultOf 96 = .ok (.iconst 0, 1) := by decide +kernel
theorem dX3_faultOf_97 : decode cX3_faultOf 97 = .ok (.goto 4, 3) := by decide +kernel
theorem dX3_faultOf_100 : decode cX3_faultOf 100 = .ok (.iconst 3, 1) := by decide +kernel
theorem dX3_faultOf_101 : decode cX3_faultOf 101 = .ok (.ireturn, 1) := by decide +kernel
theorem dX3_longYear_0 : decode cX3_longYear 0 = .ok (.aload_n 0, 1) := by decide +kernel
theorem dX3_longYear_1 : decode cX3_longYear 1 = .ok (.aload_n 1, 1) := by decide +kernel
theorem dX3_longYear_2 : decode cX3_longYear 2 = .ok (.iconst 0, 1) := by decide +kernel
theorem dX3_longYear_3 : decode cX3_longYear 3 = .ok (.bipush 99, 2) := by decide +kernel
theorem dX3_longYear_5 : decode cX3_longYear 5 = .ok (.invokevirtual 57, 3) := by decide +kernel
theorem dX3_longYear_8 : decode cX3_longYear 8 = .ok (.istore_n 2, 1) := by decide +kernel
theorem dX3_longYear_9 : decode cX3_longYear 9 = .ok (.iload_n 2, 1) := by decide +kernel
theorem dX3_longYear_10 : decode cX3_longYear 10 = .ok (.iconst (-1), 1) := by decide +kernel
theorem dX3_longYear_11 : decode cX3_longYear 11 = .ok (.if_icmp .ne 5, 3) := by decide +kernel
theorem dX3_longYear_14 : decode cX3_longYear 14 = .ok (.iconst (-1), 1) := by decide +kernel
theorem dX3_longYear_15 : decode cX3_longYear 15 = .ok (.ireturn, 1) := by decide +kernel
theorem dX3_longYear_16 : decode cX3_longYear 16 = .ok (.aload_n 0, 1) := by decide +kernel
theorem dX3_longYear_17 : decode cX3_longYear 17 = .ok (.aload_n 1, 1) := by decide +kernel
theorem dX3_longYear_18 : decode cX3_longYear 18 = .ok (.iconst 0, 1) := by decide +kernel
theorem dX3_longYear_19 : decode cX3_longYear 19 = .ok (.bipush 99, 2) := by decide +kernel
theorem dX3_longYear_21 : decode cX3_longYear 21 = .ok (.invokevirtual 57, 3) := by decide +kernel
theorem dX3_longYear_24 : decode cX3_longYear 24 = .ok (.istore_n 3, 1) := by decide +kernel
theorem dX3_longYear_25 : decode cX3_longYear 25 = .ok (.iload_n 3, 1) := by decide +kernel
theorem dX3_longYear_26 : decode cX3_longYear 26 = .ok (.iconst (-1), 1) := by decide +kernel
theorem dX3_longYear_27 : decode cX3_longYear 27 = .ok (.if_icmp .ne 7, 3) := by decide +kernel
theorem dX3_longYear_30 : decode cX3_longYear 30 = .ok (.iconst (-1), 1) := by decide +kernel
theorem dX3_longYear_31 : decode cX3_longYear 31 = .ok (.goto 9, 3) := by decide +kernel
theorem dX3_longYear_34 : decode cX3_longYear 34 = .ok (.iload_n 2, 1) := by decide +kernel
theorem dX3_longYear_35 : decode cX3_longYear 35 = .ok (.bipush 100, 2) := by decide +kernel
theorem dX3_longYear_37 : decode cX3_longYear 37 = .ok (.imul, 1) := by decide +kernel
theorem dX3_longYear_38 : decode cX3_longYear 38 = .ok (.iload_n 3, 1) := by decide +kernel
theorem dX3_longYear_39 : decode cX3_longYear 39 = .ok (.iadd, 1) := by decide +kernel
theorem dX3_longYear_40 : decode cX3_longYear 40 = .ok (.ireturn, 1) := by decide +kernel
theorem dX3_readClock_0 : decode cX3_readClock 0 = .ok (.aload_n 0, 1) := by decide +kernel
theorem dX3_readClock_1 : decode cX3_readClock 1 = .ok (.aload_n 1, 1) := by decide +kernel
theorem dX3_readClock_2 : decode cX3_readClock 2 = .ok (.aload_n 3, 1) := by decide +kernel
theorem dX3_readClock_3 : decode cX3_readClock 3 = .ok (.invokevirtual 71, 3) := by decide +kernel
theorem dX3_readClock_6 : decode cX3_readClock 6 = .ok (.istore 4, 2) := by decide +kernel
theorem dX3_readClock_8 : decode cX3_readClock 8 = .ok (.iload 4, 2) := by decide +kernel
theorem dX3_readClock_10 : decode cX3_readClock 10 = .ok (.iconst (-1), 1) := by decide +kernel
theorem dX3_readClock_11 : decode cX3_readClock 11 = .ok (.if_icmp .ne 5, 3) := by decide +kernel
theorem dX3_readClock_14 : decode cX3_readClock 14 = .ok (.iconst 0, 1) := by decide +kernel
theorem dX3_readClock_15 : decode cX3_readClock 15 = .ok (.ireturn, 1) := by decide +kernel
theorem dX3_readClock_16 : decode cX3_readClock 16 = .ok (.iload_n 2, 1) := by decide +kernel
theorem dX3_readClock_17 : decode cX3_readClock 17 = .ok (.ifCond .ne 15, 3) := by decide +kernel
theorem dX3_readClock_20 : decode cX3_readClock 20 = .ok (.iload 4, 2) := by decide +kernel
theorem dX3_readClock_22 : decode cX3_readClock 22 = .ok (.iconst 2, 1) := by decide +kernel
theorem dX3_readClock_23 : decode cX3_readClock 23 = .ok (.if_icmp .lt 7, 3) := by decide +kernel
theorem dX3_readClock_26 : decode cX3_readClock 26 = .ok (.iconst 1, 1) := by decide +kernel
theorem dX3_readClock_27 : decode cX3_readClock 27 = .ok (.goto 4, 3) := by decide +kernel
theorem dX3_readClock_30 : decode cX3_readClock 30 = .ok (.iconst 0, 1) := by decide +kernel
theorem dX3_readClock_31 : decode cX3_readClock 31 = .ok (.ireturn, 1) := by decide +kernel
theorem dX3_readClock_32 : decode cX3_readClock 32 = .ok (.aload_n 1, 1) := by decide +kernel
theorem dX3_readClock_33 : decode cX3_readClock 33 = .ok (.aload_n 0, 1) := by decide +kernel
theorem dX3_readClock_34 : decode cX3_readClock 34 = .ok (.getfield 9, 3) := by decide +kernel
theorem dX3_readClock_37 : decode cX3_readClock 37 = .ok (.invokevirtual 75, 3) := by decide +kernel
theorem dX3_readClock_40 : decode cX3_readClock 40 = .ok (.istore 5, 2) := by decide +kernel
theorem dX3_readClock_42 : decode cX3_readClock 42 = .ok (.iload 5, 2) := by decide +kernel
theorem dX3_readClock_44 : decode cX3_readClock 44 = .ok (.bipush 46, 2) := by decide +kernel
theorem dX3_readClock_46 : decode cX3_readClock 46 = .ok (.if_icmp .eq 12, 3) := by decide +kernel
theorem dX3_readClock_49 : decode cX3_readClock 49 = .ok (.iload 5, 2) := by decide +kernel
theorem dX3_readClock_51 : decode cX3_readClock 51 = .ok (.bipush 44, 2) := by decide +kernel
theorem dX3_readClock_53 : decode cX3_readClock 53 = .ok (.if_icmp .eq 5, 3) := by decide +kernel
theorem dX3_readClock_56 : decode cX3_readClock 56 = .ok (.iconst 1, 1) := by decide +kernel
theorem dX3_readClock_57 : decode cX3_readClock 57 = .ok (.ireturn, 1) := by decide +kernel
theorem dX3_readClock_58 : decode cX3_readClock 58 = .ok (.aload_n 0, 1) := by decide +kernel
theorem dX3_readClock_59 : decode cX3_readClock 59 = .ok (.dup, 1) := by decide +kernel
theorem dX3_readClock_60 : decode cX3_readClock 60 = .ok (.getfield 9, 3) := by decide +kernel
theorem dX3_readClock_63 : decode cX3_readClock 63 = .ok (.iconst 1, 1) := by decide +kernel
theorem dX3_readClock_64 : decode cX3_readClock 64 = .ok (.iadd, 1) := by decide +kernel
theorem dX3_readClock_65 : decode cX3_readClock 65 = .ok (.putfield 9, 3) := by decide +kernel
theorem dX3_readClock_68 : decode cX3_readClock 68 = .ok (.aload_n 0, 1) := by decide +kernel
theorem dX3_readClock_69 : decode cX3_readClock 69 = .ok (.aload_n 1, 1) := by decide +kernel
theorem dX3_readClock_70 : decode cX3_readClock 70 = .ok (.iload 4, 2) := by decide +kernel
theorem dX3_readClock_72 : decode cX3_readClock 72 = .ok (.aload_n 3, 1) := by decide +kernel
theorem dX3_readClock_73 : decode cX3_readClock 73 = .ok (.invokevirtual 79, 3) := by decide +kernel
theorem dX3_readClock_76 : decode cX3_readClock 76 = .ok (.ireturn, 1) := by decide +kernel
theorem dX3_readDate_0 : decode cX3_readDate 0 = .ok (.aload_n 3, 1) := by decide +kernel
theorem dX3_readDate_1 : decode cX3_readDate 1 = .ok (.iload_n 2, 1) := by decide +kernel
theorem dX3_readDate_2 : decode cX3_readDate 2 = .ok (.ifCond .ne 11, 3) := by decide +kernel
theorem dX3_readDate_5 : decode cX3_readDate 5 = .ok (.aload_n 0, 1) := by decide +kernel
theorem dX3_readDate_6 : decode cX3_readDate 6 = .ok (.aload_n 1, 1) := by decide +kernel
theorem dX3_readDate_7 : decode cX3_readDate 7 = .ok (.invokevirtual 50, 3) := by decide +kernel
theorem dX3_readDate_10 : decode cX3_readDate 10 = .ok (.goto 8, 3) := by decide +kernel
theorem dX3_readDate_13 : decode cX3_readDate 13 = .ok (.aload_n 0, 1) := by decide +kernel
theorem dX3_readDate_14 : decode cX3_readDate 14 = .ok (.aload_n 1, 1) := by decide +kernel
theorem dX3_readDate_15 : decode cX3_readDate 15 = .ok (.invokevirtual 54, 3) := by decide +kernel
theorem dX3_readDate_18 : decode cX3_readDate 18 = .ok (.putfield 43, 3) := by decide +kernel
theorem dX3_readDate_21 : decode cX3_readDate 21 = .ok (.aload_n 3, 1) := by decide +kernel
theorem dX3_readDate_22 : decode cX3_readDate 22 = .ok (.getfield 43, 3) := by decide +kernel
theorem dX3_readDate_25 : decode cX3_readDate 25 = .ok (.iconst (-1), 1) := by decide +kernel
theorem dX3_readDate_26 : decode cX3_readDate 26 = .ok (.if_icmp .ne 5, 3) := by decide +kernel
theorem dX3_readDate_29 : decode cX3_readDate 29 = .ok (.iconst 0, 1) := by decide +kernel
theorem dX3_readDate_30 : decode cX3_readDate 30 = .ok (.ireturn, 1) := by decide +kernel
theorem dX3_readDate_31 : decode cX3_readDate 31 = .ok (.aload_n 3, 1) := by decide +kernel
theorem dX3_readDate_32 : decode cX3_readDate 32 = .ok (.aload_n 0, 1) := by decide +kernel
theorem dX3_readDate_33 : decode cX3_readDate 33 = .ok (.aload_n 1, 1) := by decide +kernel
theorem dX3_readDate_34 : decode cX3_readDate 34 = .ok (.iconst 1, 1) := by decide +kernel
theorem dX3_readDate_35 : decode cX3_readDate 35 = .ok (.bipush 12, 2) := by decide +kernel
theorem dX3_readDate_37 : decode cX3_readDate 37 = .ok (.invokevirtual 57, 3) := by decide +kernel
theorem dX3_readDate_40 : decode cX3_readDate 40 = .ok (.putfield 61, 3) := by decide +kernel
theorem dX3_readDate_43 : decode cX3_readDate 43 = .ok (.aload_n 3, 1) := by decide +kernel
theorem dX3_readDate_44 : decode cX3_readDate 44 = .ok (.getfield 61, 3) := by decide +kernel
theorem dX3_readDate_47 : decode cX3_readDate 47 = .ok (.iconst (-1), 1) := by decide +kernel
theorem dX3_readDate_48 : decode cX3_readDate 48 = .ok (.if_icmp .ne 5, 3) := by decide +kernel
theorem dX3_readDate_51 : decode cX3_readDate 51 = .ok (.iconst 0, 1) := by decide +kernel
theorem dX3_readDate_52 : decode cX3_readDate 52 = .ok (.ireturn, 1) := by decide +kernel
theorem dX3_readDate_53 : decode cX3_readDate 53 = .ok (.aload_n 3, 1) := by decide +kernel
theorem dX3_readDate_54 : decode cX3_readDate 54 = .ok (.aload_n 0, 1) := by decide +kernel
theorem dX3_readDate_55 : decode cX3_readDate 55 = .ok (.aload_n 1, 1) := by decide +kernel
theorem dX3_readDate_56 : decode cX3_readDate 56 = .ok (.iconst 1, 1) := by decide +kernel
theorem dX3_readDate_57 : decode cX3_readDate 57 = .ok (.aload_n 3, 1) := by decide +kernel
theorem dX3_readDate_58 : decode cX3_readDate 58 = .ok (.getfield 43, 3) := by decide +kernel
theorem dX3_readDate_61 : decode cX3_readDate 61 = .ok (.aload_n 3, 1) := by decide +kernel
theorem dX3_readDate_62 : decode cX3_readDate 62 = .ok (.getfield 61, 3) := by decide +kernel
theorem dX3_readDate_65 : decode cX3_readDate 65 = .ok (.invokestatic 64, 3) := by decide +kernel
theorem dX3_readDate_68 : decode cX3_readDate 68 = .ok (.invokevirtual 57, 3) := by decide +kernel
theorem dX3_readDate_71 : decode cX3_readDate 71 = .ok (.putfield 68, 3) := by decide +kernel
theorem dX3_readDate_74 : decode cX3_readDate 74 = .ok (.aload_n 3, 1) := by decide +kernel
theorem dX3_readDate_75 : decode cX3_readDate 75 = .ok (.getfield 68, 3) := by decide +kernel
theorem dX3_readDate_78 : decode cX3_readDate 78 = .ok (.iconst (-1), 1) := by decide +kernel
theorem dX3_readDate_79 : decode cX3_readDate 79 = .ok (.if_icmp .eq 7, 3) := by decide +kernel
theorem dX3_readDate_82 : decode cX3_readDate 82 = .ok (.iconst 1, 1) := by decide +kernel
theorem dX3_readDate_83 : decode cX3_readDate 83 = .ok (.goto 4, 3) := by decide +kernel
theorem dX3_readDate_86 : decode cX3_readDate 86 = .ok (.iconst 0, 1) := by decide +kernel
theorem dX3_readDate_87 : decode cX3_readDate 87 = .ok (.ireturn, 1) := by decide +kernel
theorem dX3_readPair_0 : decode cX3_readPair 0 = .ok (.aload_n 1, 1) := by decide +kernel
theorem dX3_readPair_1 : decode cX3_readPair 1 = .ok (.aload_n 0, 1) := by decide +kernel
theorem dX3_readPair_2 : decode cX3_readPair 2 = .ok (.getfield 9, 3) := by decide +kernel
theorem dX3_readPair_5 : decode cX3_readPair 5 = .ok (.invokevirtual 85, 3) := by decide +kernel
theorem dX3_readPair_8 : decode cX3_readPair 8 = .ok (.istore 4, 2) := by decide +kernel
theorem dX3_readPair_10 : decode cX3_readPair 10 = .ok (.aload_n 1, 1) := by decide +kernel
theorem dX3_readPair_11 : decode cX3_readPair 11 = .ok (.aload_n 0, 1) := by decide +kernel
theorem dX3_readPair_12 : decode cX3_readPair 12 = .ok (.getfield 9, 3) := by decide +kernel
theorem dX3_readPair_15 : decode cX3_readPair 15 = .ok (.iconst 1, 1) := by decide +kernel
theorem dX3_readPair_16 : decode cX3_readPair 16 = .ok (.iadd, 1) := by decide +kernel
theorem dX3_readPair_17 : decode cX3_readPair 17 = .ok (.invokevirtual 85, 3) := by decide +kernel
theorem dX3_readPair_20 : decode cX3_readPair 20 = .ok (.istore 5, 2) := by decide +kernel
theorem dX3_readPair_22 : decode cX3_readPair 22 = .ok (.iload 4, 2) := by decide +kernel
theorem dX3_readPair_24 : decode cX3_readPair 24 = .ok (.iconst (-1), 1) := by decide +kernel
theorem dX3_readPair_25 : decode cX3_readPair 25 = .ok (.if_icmp .eq 9, 3) := by decide +kernel
theorem dX3_readPair_28 : decode cX3_readPair 28 = .ok (.iload 5, 2) := by decide +kernel
theorem dX3_readPair_30 : decode cX3_readPair 30 = .ok (.iconst (-1), 1) := by decide +kernel
theorem dX3_readPair_31 : decode cX3_readPair 31 = .ok (.if_icmp .ne 5, 3) := by decide +kernel
theorem dX3_readPair_34 : decode cX3_readPair 34 = .ok (.iconst (-1), 1) := by decide +kernel
theorem dX3_readPair_35 : decode cX3_readPair 35 = .ok (.ireturn, 1) := by decide +kernel
theorem dX3_readPair_36 : decode cX3_readPair 36 = .ok (.iload 4, 2) := by decide +kernel
theorem dX3_readPair_38 : decode cX3_readPair 38 = .ok (.bipush 10, 2) := by decide +kernel
theorem dX3_readPair_40 : decode cX3_readPair 40 = .ok (.imul, 1) := by decide +kernel
theorem dX3_readPair_41 : decode cX3_readPair 41 = .ok (.iload 5, 2) := by decide +kernel
theorem dX3_readPair_43 : decode cX3_readPair 43 = .ok (.iadd, 1) := by decide +kernel
theorem dX3_readPair_44 : decode cX3_readPair 44 = .ok (.istore 6, 2) := by decide +kernel
theorem dX3_readPair_46 : decode cX3_readPair 46 = .ok (.iload 6, 2) := by decide +kernel
theorem dX3_readPair_48 : decode cX3_readPair 48 = .ok (.iload_n 2, 1) := by decide +kernel
theorem dX3_readPair_49 : decode cX3_readPair 49 = .ok (.if_icmp .lt 9, 3) := by decide +kernel
theorem dX3_readPair_52 : decode cX3_readPair 52 = .ok (.iload 6, 2) := by decide +kernel
theorem dX3_readPair_54 : decode cX3_readPair 54 = .ok (.iload_n 3, 1) := by decide +kernel
theorem dX3_readPair_55 : decode cX3_readPair 55 = .ok (.if_icmp .le 5, 3) := by decide +kernel
theorem dX3_readPair_58 : decode cX3_readPair 58 = .ok (.iconst (-1), 1) := by decide +kernel
theorem dX3_readPair_59 : decode cX3_readPair 59 = .ok (.ireturn, 1) := by decide +kernel
theorem dX3_readPair_60 : decode cX3_readPair 60 = .ok (.aload_n 0, 1) := by decide +kernel
theorem dX3_readPair_61 : decode cX3_readPair 61 = .ok (.dup, 1) := by decide +kernel
theorem dX3_readPair_62 : decode cX3_readPair 62 = .ok (.getfield 9, 3) := by decide +kernel
theorem dX3_readPair_65 : decode cX3_readPair 65 = .ok (.iconst 2, 1) := by decide +kernel
theorem dX3_readPair_66 : decode cX3_readPair 66 = .ok (.iadd, 1) := by decide +kernel
theorem dX3_readPair_67 : decode cX3_readPair 67 = .ok (.putfield 9, 3) := by decide +kernel
theorem dX3_readPair_70 : decode cX3_readPair 70 = .ok (.iload 6, 2) := by decide +kernel
theorem dX3_readPair_72 : decode cX3_readPair 72 = .ok (.ireturn, 1) := by decide +kernel
theorem dX3_readPart_0 : decode cX3_readPart 0 = .ok (.aload_n 0, 1) := by decide +kernel
theorem dX3_readPart_1 : decode cX3_readPart 1 = .ok (.getfield 9, 3) := by decide +kernel
theorem dX3_readPart_4 : decode cX3_readPart 4 = .ok (.istore 4, 2) := by decide +kernel
theorem dX3_readPart_6 : decode cX3_readPart 6 = .ok (.aload_n 0, 1) := by decide +kernel
theorem dX3_readPart_7 : decode cX3_readPart 7 = .ok (.getfield 9, 3) := by decide +kernel
theorem dX3_readPart_10 : decode cX3_readPart 10 = .ok (.aload_n 1, 1) := by decide +kernel
theorem dX3_readPart_11 : decode cX3_readPart 11 = .ok (.getfield 30, 3) := by decide +kernel
theorem dX3_readPart_14 : decode cX3_readPart 14 = .ok (.if_icmp .ge 40, 3) := by decide +kernel
theorem dX3_readPart_17 : decode cX3_readPart 17 = .ok (.aload_n 1, 1) := by decide +kernel
theorem dX3_readPart_18 : decode cX3_readPart 18 = .ok (.aload_n 0, 1) := by decide +kernel
theorem dX3_readPart_19 : decode cX3_readPart 19 = .ok (.getfield 9, 3) := by decide +kernel
theorem dX3_readPart_22 : decode cX3_readPart 22 = .ok (.invokevirtual 85, 3) := by decide +kernel
theorem dX3_readPart_25 : decode cX3_readPart 25 = .ok (.iconst (-1), 1) := by decide +kernel
theorem dX3_readPart_26 : decode cX3_readPart 26 = .ok (.if_icmp .eq 28, 3) := by decide +kernel
theorem dX3_readPart_29 : decode cX3_readPart 29 = .ok (.aload_n 3, 1) := by decide +kernel
theorem dX3_readPart_30 : decode cX3_readPart 30 = .ok (.aload_n 1, 1) := by decide +kernel
theorem dX3_readPart_31 : decode cX3_readPart 31 = .ok (.aload_n 0, 1) := by decide +kernel
theorem dX3_readPart_32 : decode cX3_readPart 32 = .ok (.getfield 9, 3) := by decide +kernel
theorem dX3_readPart_35 : decode cX3_readPart 35 = .ok (.invokevirtual 85, 3) := by decide +kernel
theorem dX3_readPart_38 : decode cX3_readPart 38 = .ok (.invokevirtual 94, 3) := by decide +kernel
theorem dX3_readPart_41 : decode cX3_readPart 41 = .ok (.aload_n 0, 1) := by decide +kernel
theorem dX3_readPart_42 : decode cX3_readPart 42 = .ok (.dup, 1) := by decide +kernel
theorem dX3_readPart_43 : decode cX3_readPart 43 = .ok (.getfield 9, 3) := by decide +kernel
theorem dX3_readPart_46 : decode cX3_readPart 46 = .ok (.iconst 1, 1) := by decide +kernel
theorem dX3_readPart_47 : decode cX3_readPart 47 = .ok (.iadd, 1) := by decide +kernel
theorem dX3_readPart_48 : decode cX3_readPart 48 = .ok (.putfield 9, 3) := by decide +kernel
theorem dX3_readPart_51 : decode cX3_readPart 51 = .ok (.goto (-45), 3) := by decide +kernel
theorem dX3_readPart_54 : decode cX3_readPart 54 = .ok (.aload_n 3, 1) := by decide +kernel
theorem dX3_readPart_55 : decode cX3_readPart 55 = .ok (.iload_n 2, 1) := by decide +kernel
theorem dX3_readPart_56 : decode cX3_readPart 56 = .ok (.invokevirtual 97, 3) := by decide +kernel
theorem dX3_readPart_59 : decode cX3_readPart 59 = .ok (.aload_n 0, 1) := by decide +kernel
theorem dX3_readPart_60 : decode cX3_readPart 60 = .ok (.getfield 9, 3) := by decide +kernel
theorem dX3_readPart_63 : decode cX3_readPart 63 = .ok (.iload 4, 2) := by decide +kernel
theorem dX3_readPart_65 : decode cX3_readPart 65 = .ok (.if_icmp .le 7, 3) := by decide +kernel
theorem dX3_readPart_68 : decode cX3_readPart 68 = .ok (.iconst 1, 1) := by decide +kernel
theorem dX3_readPart_69 : decode cX3_readPart 69 = .ok (.goto 4, 3) := by decide +kernel
theorem dX3_readPart_72 : decode cX3_readPart 72 = .ok (.iconst 0, 1) := by decide +kernel
theorem dX3_readPart_73 : decode cX3_readPart 73 = .ok (.ireturn, 1) := by decide +kernel
theorem dX3_readUnits_0 : decode cX3_readUnits 0 = .ok (.aload_n 2, 1) := by decide +kernel
theorem dX3_readUnits_1 : decode cX3_readUnits 1 = .ok (.aload_n 0, 1) := by decide +kernel
theorem dX3_readUnits_2 : decode cX3_readUnits 2 = .ok (.aload_n 1, 1) := by decide +kernel
theorem dX3_readUnits_3 : decode cX3_readUnits 3 = .ok (.iconst 0, 1) := by decide +kernel
theorem dX3_readUnits_4 : decode cX3_readUnits 4 = .ok (.bipush 23, 2) := by decide +kernel
theorem dX3_readUnits_6 : decode cX3_readUnits 6 = .ok (.invokevirtual 57, 3) := by decide +kernel
theorem dX3_readUnits_9 : decode cX3_readUnits 9 = .ok (.putfield 82, 3) := by decide +kernel
theorem dX3_readUnits_12 : decode cX3_readUnits 12 = .ok (.aload_n 2, 1) := by decide +kernel
theorem dX3_readUnits_13 : decode cX3_readUnits 13 = .ok (.getfield 82, 3) := by decide +kernel
theorem dX3_readUnits_16 : decode cX3_readUnits 16 = .ok (.iconst (-1), 1) := by decide +kernel
theorem dX3_readUnits_17 : decode cX3_readUnits 17 = .ok (.if_icmp .ne 5, 3) := by decide +kernel
theorem dX3_readUnits_20 : decode cX3_readUnits 20 = .ok (.iconst (-1), 1) := by decide +kernel
theorem dX3_readUnits_21 : decode cX3_readUnits 21 = .ok (.ireturn, 1) := by decide +kernel
theorem dX3_readUnits_22 : decode cX3_readUnits 22 = .ok (.aload_n 1, 1) := by decide +kernel
theorem dX3_readUnits_23 : decode cX3_readUnits 23 = .ok (.aload_n 0, 1) := by decide +kernel
theorem dX3_readUnits_24 : decode cX3_readUnits 24 = .ok (.getfield 9, 3) := by decide +kernel
theorem dX3_readUnits_27 : decode cX3_readUnits 27 = .ok (.invokevirtual 85, 3) := by decide +kernel
theorem dX3_readUnits_30 : decode cX3_readUnits 30 = .ok (.iconst (-1), 1) := by decide +kernel
theorem dX3_readUnits_31 : decode cX3_readUnits 31 = .ok (.if_icmp .ne 5, 3) := by decide +kernel
theorem dX3_readUnits_34 : decode cX3_readUnits 34 = .ok (.iconst 1, 1) := by decide +kernel
theorem dX3_readUnits_35 : decode cX3_readUnits 35 = .ok (.ireturn, 1) := by decide +kernel
theorem dX3_readUnits_36 : decode cX3_readUnits 36 = .ok (.aload_n 2, 1) := by decide +kernel
theorem dX3_readUnits_37 : decode cX3_readUnits 37 = .ok (.aload_n 0, 1) := by decide +kernel
theorem dX3_readUnits_38 : decode cX3_readUnits 38 = .ok (.aload_n 1, 1) := by decide +kernel
theorem dX3_readUnits_39 : decode cX3_readUnits 39 = .ok (.iconst 0, 1) := by decide +kernel
theorem dX3_readUnits_40 : decode cX3_readUnits 40 = .ok (.bipush 59, 2) := by decide +kernel
theorem dX3_readUnits_42 : decode cX3_readUnits 42 = .ok (.invokevirtual 57, 3) := by decide +kernel
theorem dX3_readUnits_45 : decode cX3_readUnits 45 = .ok (.putfield 88, 3) := by decide +kernel
theorem dX3_readUnits_48 : decode cX3_readUnits 48 = .ok (.aload_n 2, 1) := by decide +kernel
theorem dX3_readUnits_49 : decode cX3_readUnits 49 = .ok (.getfield 88, 3) := by decide +kernel
theorem dX3_readUnits_52 : decode cX3_readUnits 52 = .ok (.iconst (-1), 1) := by decide +kernel
theorem dX3_readUnits_53 : decode cX3_readUnits 53 = .ok (.if_icmp .ne 5, 3) := by decide +kernel
theorem dX3_readUnits_56 : decode cX3_readUnits 56 = .ok (.iconst (-1), 1) := by decide +kernel
theorem dX3_readUnits_57 : decode cX3_readUnits 57 = .ok (.ireturn, 1) := by decide +kernel
theorem dX3_readUnits_58 : decode cX3_readUnits 58 = .ok (.aload_n 1, 1) := by decide +kernel
theorem dX3_readUnits_59 : decode cX3_readUnits 59 = .ok (.aload_n 0, 1) := by decide +kernel
theorem dX3_readUnits_60 : decode cX3_readUnits 60 = .ok (.getfield 9, 3) := by decide +kernel
theorem dX3_readUnits_63 : decode cX3_readUnits 63 = .ok (.invokevirtual 85, 3) := by decide +kernel
theorem dX3_readUnits_66 : decode cX3_readUnits 66 = .ok (.iconst (-1), 1) := by decide +kernel
theorem dX3_readUnits_67 : decode cX3_readUnits 67 = .ok (.if_icmp .ne 5, 3) := by decide +kernel
theorem dX3_readUnits_70 : decode cX3_readUnits 70 = .ok (.iconst 2, 1) := by decide +kernel
theorem dX3_readUnits_71 : decode cX3_readUnits 71 = .ok (.ireturn, 1) := by decide +kernel
theorem dX3_readUnits_72 : decode cX3_readUnits 72 = .ok (.aload_n 2, 1) := by decide +kernel
theorem dX3_readUnits_73 : decode cX3_readUnits 73 = .ok (.aload_n 0, 1) := by decide +kernel
theorem dX3_readUnits_74 : decode cX3_readUnits 74 = .ok (.aload_n 1, 1) := by decide +kernel
theorem dX3_readUnits_75 : decode cX3_readUnits 75 = .ok (.iconst 0, 1) := by decide +kernel
theorem dX3_readUnits_76 : decode cX3_readUnits 76 = .ok (.bipush 59, 2) := by decide +kernel
theorem dX3_readUnits_78 : decode cX3_readUnits 78 = .ok (.invokevirtual 57, 3) := by decide +kernel
theorem dX3_readUnits_81 : decode cX3_readUnits 81 = .ok (.putfield 91, 3) := by decide +kernel
theorem dX3_readUnits_84 : decode cX3_readUnits 84 = .ok (.aload_n 2, 1) := by decide +kernel
theorem dX3_readUnits_85 : decode cX3_readUnits 85 = .ok (.getfield 91, 3) := by decide +kernel
theorem dX3_readUnits_88 : decode cX3_readUnits 88 = .ok (.iconst (-1), 1) := by decide +kernel
theorem dX3_readUnits_89 : decode cX3_readUnits 89 = .ok (.if_icmp .ne 7, 3) := by decide +kernel
