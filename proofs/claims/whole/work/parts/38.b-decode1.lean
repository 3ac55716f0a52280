theorem dX5_add_0 : decode cX5_add 0 = .ok (.bipush 24, 2) := by decide +kernel
theorem dX5_add_2 : decode cX5_add 2 = .ok (.istore_n 2, 1) := by decide +kernel
theorem dX5_add_3 : decode cX5_add 3 = .ok (.iload_n 2, 1) := by decide +kernel
theorem dX5_add_4 : decode cX5_add 4 = .ok (.ifCond .lt 35, 3) := by decide +kernel
theorem dX5_add_7 : decode cX5_add 7 = .ok (.aload_n 0, 1) := by decide +kernel
theorem dX5_add_8 : decode cX5_add 8 = .ok (.getfield 7, 3) := by decide +kernel
theorem dX5_add_11 : decode cX5_add 11 = .ok (.aload_n 0, 1) := by decide +kernel
theorem dX5_add_12 : decode cX5_add 12 = .ok (.getfield 33, 3) := by decide +kernel
theorem dX5_add_15 : decode cX5_add 15 = .ok (.iload_n 1, 1) := by decide +kernel
theorem dX5_add_16 : decode cX5_add 16 = .ok (.iload_n 2, 1) := by decide +kernel
theorem dX5_add_17 : decode cX5_add 17 = .ok (.ishr, 1) := by decide +kernel
theorem dX5_add_18 : decode cX5_add 18 = .ok (.sipush 255, 3) := by decide +kernel
theorem dX5_add_21 : decode cX5_add 21 = .ok (.iand, 1) := by decide +kernel
theorem dX5_add_22 : decode cX5_add 22 = .ok (.iastore, 1) := by decide +kernel
theorem dX5_add_23 : decode cX5_add 23 = .ok (.aload_n 0, 1) := by decide +kernel
theorem dX5_add_24 : decode cX5_add 24 = .ok (.dup, 1) := by decide +kernel
theorem dX5_add_25 : decode cX5_add 25 = .ok (.getfield 33, 3) := by decide +kernel
theorem dX5_add_28 : decode cX5_add 28 = .ok (.iconst 1, 1) := by decide +kernel
theorem dX5_add_29 : decode cX5_add 29 = .ok (.iadd, 1) := by decide +kernel
theorem dX5_add_30 : decode cX5_add 30 = .ok (.putfield 33, 3) := by decide +kernel
theorem dX5_add_33 : decode cX5_add 33 = .ok (.iinc 2 (-8), 3) := by decide +kernel
theorem dX5_add_36 : decode cX5_add 36 = .ok (.goto (-33), 3) := by decide +kernel
theorem dX5_add_39 : decode cX5_add 39 = .ok (.return_, 1) := by decide +kernel
theorem dX5_dayNow_0 : decode cX5_dayNow 0 = .ok (.aload_n 0, 1) := by decide +kernel
theorem dX5_dayNow_1 : decode cX5_dayNow 1 = .ok (.getfield 52, 3) := by decide +kernel
theorem dX5_dayNow_4 : decode cX5_dayNow 4 = .ok (.ldc2_w 56, 3) := by decide +kernel
theorem dX5_dayNow_7 : decode cX5_dayNow 7 = .ok (.ldiv, 1) := by decide +kernel
theorem dX5_dayNow_8 : decode cX5_dayNow 8 = .ok (.l2i, 1) := by decide +kernel
theorem dX5_dayNow_9 : decode cX5_dayNow 9 = .ok (.ireturn, 1) := by decide +kernel
theorem dX5_dayOf_0 : decode cX5_dayOf 0 = .ok (.iload_n 0, 1) := by decide +kernel
theorem dX5_dayOf_1 : decode cX5_dayOf 1 = .ok (.invokestatic 44, 3) := by decide +kernel
theorem dX5_dayOf_4 : decode cX5_dayOf 4 = .ok (.iload_n 2, 1) := by decide +kernel
theorem dX5_dayOf_5 : decode cX5_dayOf 5 = .ok (.iadd, 1) := by decide +kernel
theorem dX5_dayOf_6 : decode cX5_dayOf 6 = .ok (.iconst 1, 1) := by decide +kernel
theorem dX5_dayOf_7 : decode cX5_dayOf 7 = .ok (.isub, 1) := by decide +kernel
theorem dX5_dayOf_8 : decode cX5_dayOf 8 = .ok (.istore_n 3, 1) := by decide +kernel
theorem dX5_dayOf_9 : decode cX5_dayOf 9 = .ok (.iconst 1, 1) := by decide +kernel
theorem dX5_dayOf_10 : decode cX5_dayOf 10 = .ok (.istore 4, 2) := by decide +kernel
theorem dX5_dayOf_12 : decode cX5_dayOf 12 = .ok (.iload 4, 2) := by decide +kernel
theorem dX5_dayOf_14 : decode cX5_dayOf 14 = .ok (.iload_n 1, 1) := by decide +kernel
theorem dX5_dayOf_15 : decode cX5_dayOf 15 = .ok (.if_icmp .ge 18, 3) := by decide +kernel
theorem dX5_dayOf_18 : decode cX5_dayOf 18 = .ok (.iload_n 3, 1) := by decide +kernel
theorem dX5_dayOf_19 : decode cX5_dayOf 19 = .ok (.iload_n 0, 1) := by decide +kernel
theorem dX5_dayOf_20 : decode cX5_dayOf 20 = .ok (.iload 4, 2) := by decide +kernel
theorem dX5_dayOf_22 : decode cX5_dayOf 22 = .ok (.invokestatic 48, 3) := by decide +kernel
theorem dX5_dayOf_25 : decode cX5_dayOf 25 = .ok (.iadd, 1) := by decide +kernel
theorem dX5_dayOf_26 : decode cX5_dayOf 26 = .ok (.istore_n 3, 1) := by decide +kernel
theorem dX5_dayOf_27 : decode cX5_dayOf 27 = .ok (.iinc 4 1, 3) := by decide +kernel
theorem dX5_dayOf_30 : decode cX5_dayOf 30 = .ok (.goto (-18), 3) := by decide +kernel
theorem dX5_dayOf_33 : decode cX5_dayOf 33 = .ok (.iload_n 3, 1) := by decide +kernel
theorem dX5_dayOf_34 : decode cX5_dayOf 34 = .ok (.ireturn, 1) := by decide +kernel
theorem dX5_daysOf_0 : decode cX5_daysOf 0 = .ok (.iload_n 1, 1) := by decide +kernel
theorem dX5_daysOf_1 : decode cX5_daysOf 1 = .ok (.iconst 2, 1) := by decide +kernel
theorem dX5_daysOf_2 : decode cX5_daysOf 2 = .ok (.if_icmp .ne 18, 3) := by decide +kernel
theorem dX5_daysOf_5 : decode cX5_daysOf 5 = .ok (.iload_n 0, 1) := by decide +kernel
theorem dX5_daysOf_6 : decode cX5_daysOf 6 = .ok (.invokestatic 40, 3) := by decide +kernel
theorem dX5_daysOf_9 : decode cX5_daysOf 9 = .ok (.ifCond .eq 8, 3) := by decide +kernel
theorem dX5_daysOf_12 : decode cX5_daysOf 12 = .ok (.bipush 29, 2) := by decide +kernel
theorem dX5_daysOf_14 : decode cX5_daysOf 14 = .ok (.goto 5, 3) := by decide +kernel
theorem dX5_daysOf_17 : decode cX5_daysOf 17 = .ok (.bipush 28, 2) := by decide +kernel
theorem dX5_daysOf_19 : decode cX5_daysOf 19 = .ok (.ireturn, 1) := by decide +kernel
theorem dX5_daysOf_20 : decode cX5_daysOf 20 = .ok (.iload_n 1, 1) := by decide +kernel
theorem dX5_daysOf_21 : decode cX5_daysOf 21 = .ok (.iconst 4, 1) := by decide +kernel
theorem dX5_daysOf_22 : decode cX5_daysOf 22 = .ok (.if_icmp .eq 21, 3) := by decide +kernel
theorem dX5_daysOf_25 : decode cX5_daysOf 25 = .ok (.iload_n 1, 1) := by decide +kernel
theorem dX5_daysOf_26 : decode cX5_daysOf 26 = .ok (.bipush 6, 2) := by decide +kernel
theorem dX5_daysOf_28 : decode cX5_daysOf 28 = .ok (.if_icmp .eq 15, 3) := by decide +kernel
theorem dX5_daysOf_31 : decode cX5_daysOf 31 = .ok (.iload_n 1, 1) := by decide +kernel
theorem dX5_daysOf_32 : decode cX5_daysOf 32 = .ok (.bipush 9, 2) := by decide +kernel
theorem dX5_daysOf_34 : decode cX5_daysOf 34 = .ok (.if_icmp .eq 9, 3) := by decide +kernel
theorem dX5_daysOf_37 : decode cX5_daysOf 37 = .ok (.iload_n 1, 1) := by decide +kernel
theorem dX5_daysOf_38 : decode cX5_daysOf 38 = .ok (.bipush 11, 2) := by decide +kernel
theorem dX5_daysOf_40 : decode cX5_daysOf 40 = .ok (.if_icmp .ne 8, 3) := by decide +kernel
theorem dX5_daysOf_43 : decode cX5_daysOf 43 = .ok (.bipush 30, 2) := by decide +kernel
theorem dX5_daysOf_45 : decode cX5_daysOf 45 = .ok (.goto 5, 3) := by decide +kernel
theorem dX5_daysOf_48 : decode cX5_daysOf 48 = .ok (.bipush 31, 2) := by decide +kernel
theorem dX5_daysOf_50 : decode cX5_daysOf 50 = .ok (.ireturn, 1) := by decide +kernel
theorem dX5_daysTo_0 : decode cX5_daysTo 0 = .ok (.sipush 365, 3) := by decide +kernel
theorem dX5_daysTo_3 : decode cX5_daysTo 3 = .ok (.iload_n 0, 1) := by decide +kernel
theorem dX5_daysTo_4 : decode cX5_daysTo 4 = .ok (.imul, 1) := by decide +kernel
theorem dX5_daysTo_5 : decode cX5_daysTo 5 = .ok (.iload_n 0, 1) := by decide +kernel
theorem dX5_daysTo_6 : decode cX5_daysTo 6 = .ok (.iconst 3, 1) := by decide +kernel
theorem dX5_daysTo_7 : decode cX5_daysTo 7 = .ok (.iadd, 1) := by decide +kernel
theorem dX5_daysTo_8 : decode cX5_daysTo 8 = .ok (.iconst 4, 1) := by decide +kernel
theorem dX5_daysTo_9 : decode cX5_daysTo 9 = .ok (.idiv, 1) := by decide +kernel
theorem dX5_daysTo_10 : decode cX5_daysTo 10 = .ok (.iadd, 1) := by decide +kernel
theorem dX5_daysTo_11 : decode cX5_daysTo 11 = .ok (.iload_n 0, 1) := by decide +kernel
theorem dX5_daysTo_12 : decode cX5_daysTo 12 = .ok (.bipush 99, 2) := by decide +kernel
theorem dX5_daysTo_14 : decode cX5_daysTo 14 = .ok (.iadd, 1) := by decide +kernel
theorem dX5_daysTo_15 : decode cX5_daysTo 15 = .ok (.bipush 100, 2) := by decide +kernel
theorem dX5_daysTo_17 : decode cX5_daysTo 17 = .ok (.idiv, 1) := by decide +kernel
theorem dX5_daysTo_18 : decode cX5_daysTo 18 = .ok (.isub, 1) := by decide +kernel
theorem dX5_daysTo_19 : decode cX5_daysTo 19 = .ok (.iload_n 0, 1) := by decide +kernel
theorem dX5_daysTo_20 : decode cX5_daysTo 20 = .ok (.sipush 399, 3) := by decide +kernel
theorem dX5_daysTo_23 : decode cX5_daysTo 23 = .ok (.iadd, 1) := by decide +kernel
theorem dX5_daysTo_24 : decode cX5_daysTo 24 = .ok (.sipush 400, 3) := by decide +kernel
theorem dX5_daysTo_27 : decode cX5_daysTo 27 = .ok (.idiv, 1) := by decide +kernel
theorem dX5_daysTo_28 : decode cX5_daysTo 28 = .ok (.iadd, 1) := by decide +kernel
theorem dX5_daysTo_29 : decode cX5_daysTo 29 = .ok (.ireturn, 1) := by decide +kernel
theorem dX5_end_0 : decode cX5_end 0 = .ok (.aload_n 0, 1) := by decide +kernel
theorem dX5_end_1 : decode cX5_end 1 = .ok (.iload_n 1, 1) := by decide +kernel
theorem dX5_end_2 : decode cX5_end 2 = .ok (.ifCond .lt 9, 3) := by decide +kernel
theorem dX5_end_5 : decode cX5_end 5 = .ok (.iload_n 1, 1) := by decide +kernel
theorem dX5_end_6 : decode cX5_end 6 = .ok (.bipush 16, 2) := by decide +kernel
theorem dX5_end_8 : decode cX5_end 8 = .ok (.if_icmp .le 7, 3) := by decide +kernel
theorem dX5_end_11 : decode cX5_end 11 = .ok (.iconst 1, 1) := by decide +kernel
theorem dX5_end_12 : decode cX5_end 12 = .ok (.goto 17, 3) := by decide +kernel
theorem dX5_end_15 : decode cX5_end 15 = .ok (.aload_n 0, 1) := by decide +kernel
theorem dX5_end_16 : decode cX5_end 16 = .ok (.getfield 33, 3) := by decide +kernel
theorem dX5_end_19 : decode cX5_end 19 = .ok (.bipush 16, 2) := by decide +kernel
theorem dX5_end_21 : decode cX5_end 21 = .ok (.if_icmp .ge 7, 3) := by decide +kernel
theorem dX5_end_24 : decode cX5_end 24 = .ok (.iconst 2, 1) := by decide +kernel
theorem dX5_end_25 : decode cX5_end 25 = .ok (.goto 4, 3) := by decide +kernel
theorem dX5_end_28 : decode cX5_end 28 = .ok (.iconst 0, 1) := by decide +kernel
theorem dX5_end_29 : decode cX5_end 29 = .ok (.putfield 29, 3) := by decide +kernel
theorem dX5_end_32 : decode cX5_end 32 = .ok (.aload_n 0, 1) := by decide +kernel
theorem dX5_end_33 : decode cX5_end 33 = .ok (.getfield 29, 3) := by decide +kernel
theorem dX5_end_36 : decode cX5_end 36 = .ok (.ifCond .le 5, 3) := by decide +kernel
theorem dX5_end_39 : decode cX5_end 39 = .ok (.iconst 0, 1) := by decide +kernel
theorem dX5_end_40 : decode cX5_end 40 = .ok (.ireturn, 1) := by decide +kernel
theorem dX5_end_41 : decode cX5_end 41 = .ok (.aload_n 0, 1) := by decide +kernel
theorem dX5_end_42 : decode cX5_end 42 = .ok (.aload_n 0, 1) := by decide +kernel
theorem dX5_end_43 : decode cX5_end 43 = .ok (.getfield 33, 3) := by decide +kernel
theorem dX5_end_46 : decode cX5_end 46 = .ok (.bipush 16, 2) := by decide +kernel
theorem dX5_end_48 : decode cX5_end 48 = .ok (.isub, 1) := by decide +kernel
theorem dX5_end_49 : decode cX5_end 49 = .ok (.iload_n 1, 1) := by decide +kernel
theorem dX5_end_50 : decode cX5_end 50 = .ok (.iadd, 1) := by decide +kernel
theorem dX5_end_51 : decode cX5_end 51 = .ok (.putfield 33, 3) := by decide +kernel
theorem dX5_end_54 : decode cX5_end 54 = .ok (.aload_n 0, 1) := by decide +kernel
theorem dX5_end_55 : decode cX5_end 55 = .ok (.getfield 33, 3) := by decide +kernel
theorem dX5_end_58 : decode cX5_end 58 = .ok (.ireturn, 1) := by decide +kernel
theorem dX5_feed_0 : decode cX5_feed 0 = .ok (.aload_n 0, 1) := by decide +kernel
theorem dX5_feed_1 : decode cX5_feed 1 = .ok (.aload_n 0, 1) := by decide +kernel
theorem dX5_feed_2 : decode cX5_feed 2 = .ok (.getfield 33, 3) := by decide +kernel
theorem dX5_feed_5 : decode cX5_feed 5 = .ok (.bipush 16, 2) := by decide +kernel
theorem dX5_feed_7 : decode cX5_feed 7 = .ok (.iadd, 1) := by decide +kernel
theorem dX5_feed_8 : decode cX5_feed 8 = .ok (.sipush 240, 3) := by decide +kernel
theorem dX5_feed_11 : decode cX5_feed 11 = .ok (.if_icmp .le 7, 3) := by decide +kernel
theorem dX5_feed_14 : decode cX5_feed 14 = .ok (.iconst 1, 1) := by decide +kernel
theorem dX5_feed_15 : decode cX5_feed 15 = .ok (.goto 4, 3) := by decide +kernel
theorem dX5_feed_18 : decode cX5_feed 18 = .ok (.iconst 0, 1) := by decide +kernel
theorem dX5_feed_19 : decode cX5_feed 19 = .ok (.putfield 29, 3) := by decide +kernel
theorem dX5_feed_22 : decode cX5_feed 22 = .ok (.aload_n 0, 1) := by decide +kernel
theorem dX5_feed_23 : decode cX5_feed 23 = .ok (.getfield 29, 3) := by decide +kernel
theorem dX5_feed_26 : decode cX5_feed 26 = .ok (.ifCond .le 5, 3) := by decide +kernel
theorem dX5_feed_29 : decode cX5_feed 29 = .ok (.iconst 0, 1) := by decide +kernel
theorem dX5_feed_30 : decode cX5_feed 30 = .ok (.ireturn, 1) := by decide +kernel
theorem dX5_feed_31 : decode cX5_feed 31 = .ok (.aload_n 0, 1) := by decide +kernel
theorem dX5_feed_32 : decode cX5_feed 32 = .ok (.iload_n 1, 1) := by decide +kernel
theorem dX5_feed_33 : decode cX5_feed 33 = .ok (.invokevirtual 36, 3) := by decide +kernel
theorem dX5_feed_36 : decode cX5_feed 36 = .ok (.aload_n 0, 1) := by decide +kernel
theorem dX5_feed_37 : decode cX5_feed 37 = .ok (.iload_n 2, 1) := by decide +kernel
theorem dX5_feed_38 : decode cX5_feed 38 = .ok (.invokevirtual 36, 3) := by decide +kernel
theorem dX5_feed_41 : decode cX5_feed 41 = .ok (.aload_n 0, 1) := by decide +kernel
theorem dX5_feed_42 : decode cX5_feed 42 = .ok (.iload_n 3, 1) := by decide +kernel
theorem dX5_feed_43 : decode cX5_feed 43 = .ok (.invokevirtual 36, 3) := by decide +kernel
theorem dX5_feed_46 : decode cX5_feed 46 = .ok (.aload_n 0, 1) := by decide +kernel
theorem dX5_feed_47 : decode cX5_feed 47 = .ok (.iload 4, 2) := by decide +kernel
theorem dX5_feed_49 : decode cX5_feed 49 = .ok (.invokevirtual 36, 3) := by decide +kernel
theorem dX5_feed_52 : decode cX5_feed 52 = .ok (.aload_n 0, 1) := by decide +kernel
theorem dX5_feed_53 : decode cX5_feed 53 = .ok (.getfield 33, 3) := by decide +kernel
theorem dX5_feed_56 : decode cX5_feed 56 = .ok (.ireturn, 1) := by decide +kernel
theorem dX5_isDigit_0 : decode cX5_isDigit 0 = .ok (.aload_n 0, 1) := by decide +kernel
theorem dX5_isDigit_1 : decode cX5_isDigit 1 = .ok (.getfield 65, 3) := by decide +kernel
theorem dX5_isDigit_4 : decode cX5_isDigit 4 = .ok (.aload_n 0, 1) := by decide +kernel
theorem dX5_isDigit_5 : decode cX5_isDigit 5 = .ok (.getfield 33, 3) := by decide +kernel
theorem dX5_isDigit_8 : decode cX5_isDigit 8 = .ok (.if_icmp .ge 35, 3) := by decide +kernel
theorem dX5_isDigit_11 : decode cX5_isDigit 11 = .ok (.aload_n 0, 1) := by decide +kernel
theorem dX5_isDigit_12 : decode cX5_isDigit 12 = .ok (.getfield 7, 3) := by decide +kernel
theorem dX5_isDigit_15 : decode cX5_isDigit 15 = .ok (.aload_n 0, 1) := by decide +kernel
theorem dX5_isDigit_16 : decode cX5_isDigit 16 = .ok (.getfield 65, 3) := by decide +kernel
theorem dX5_isDigit_19 : decode cX5_isDigit 19 = .ok (.iaload, 1) := by decide +kernel
theorem dX5_isDigit_20 : decode cX5_isDigit 20 = .ok (.bipush 48, 2) := by decide +kernel
theorem dX5_isDigit_22 : decode cX5_isDigit 22 = .ok (.if_icmp .lt 21, 3) := by decide +kernel
theorem dX5_isDigit_25 : decode cX5_isDigit 25 = .ok (.aload_n 0, 1) := by decide +kernel
theorem dX5_isDigit_26 : decode cX5_isDigit 26 = .ok (.getfield 7, 3) := by decide +kernel
theorem dX5_isDigit_29 : decode cX5_isDigit 29 = .ok (.aload_n 0, 1) := by decide +kernel
theorem dX5_isDigit_30 : decode cX5_isDigit 30 = .ok (.getfield 65, 3) := by decide +kernel
theorem dX5_isDigit_33 : decode cX5_isDigit 33 = .ok (.iaload, 1) := by decide +kernel
theorem dX5_isDigit_34 : decode cX5_isDigit 34 = .ok (.bipush 57, 2) := by decide +kernel
theorem dX5_isDigit_36 : decode cX5_isDigit 36 = .ok (.if_icmp .gt 7, 3) := by decide +kernel
theorem dX5_isDigit_39 : decode cX5_isDigit 39 = .ok (.iconst 1, 1) := by decide +kernel
theorem dX5_isDigit_40 : decode cX5_isDigit 40 = .ok (.goto 4, 3) := by decide +kernel
theorem dX5_isDigit_43 : decode cX5_isDigit 43 = .ok (.iconst 0, 1) := by decide +kernel
theorem dX5_isDigit_44 : decode cX5_isDigit 44 = .ok (.ireturn, 1) := by decide +kernel
theorem dX5_isLeap_0 : decode cX5_isLeap 0 = .ok (.iload_n 0, 1) := by decide +kernel
theorem dX5_isLeap_1 : decode cX5_isLeap 1 = .ok (.iconst 4, 1) := by decide +kernel
theorem dX5_isLeap_2 : decode cX5_isLeap 2 = .ok (.irem, 1) := by decide +kernel
theorem dX5_isLeap_3 : decode cX5_isLeap 3 = .ok (.ifCond .ne 22, 3) := by decide +kernel
theorem dX5_isLeap_6 : decode cX5_isLeap 6 = .ok (.iload_n 0, 1) := by decide +kernel
theorem dX5_isLeap_7 : decode cX5_isLeap 7 = .ok (.bipush 100, 2) := by decide +kernel
theorem dX5_isLeap_9 : decode cX5_isLeap 9 = .ok (.irem, 1) := by decide +kernel
theorem dX5_isLeap_10 : decode cX5_isLeap 10 = .ok (.ifCond .ne 11, 3) := by decide +kernel
theorem dX5_isLeap_13 : decode cX5_isLeap 13 = .ok (.iload_n 0, 1) := by decide +kernel
theorem dX5_isLeap_14 : decode cX5_isLeap 14 = .ok (.sipush 400, 3) := by decide +kernel
theorem dX5_isLeap_17 : decode cX5_isLeap 17 = .ok (.irem, 1) := by decide +kernel
theorem dX5_isLeap_18 : decode cX5_isLeap 18 = .ok (.ifCond .ne 7, 3) := by decide +kernel
theorem dX5_isLeap_21 : decode cX5_isLeap 21 = .ok (.iconst 1, 1) := by decide +kernel
theorem dX5_isLeap_22 : decode cX5_isLeap 22 = .ok (.goto 4, 3) := by decide +kernel
theorem dX5_isLeap_25 : decode cX5_isLeap 25 = .ok (.iconst 0, 1) := by decide +kernel
theorem dX5_isLeap_26 : decode cX5_isLeap 26 = .ok (.ireturn, 1) := by decide +kernel
theorem dX5_monthNow_0 : decode cX5_monthNow 0 = .ok (.aload_n 0, 1) := by decide +kernel
theorem dX5_monthNow_1 : decode cX5_monthNow 1 = .ok (.invokevirtual 58, 3) := by decide +kernel
theorem dX5_monthNow_4 : decode cX5_monthNow 4 = .ok (.aload_n 0, 1) := by decide +kernel
theorem dX5_monthNow_5 : decode cX5_monthNow 5 = .ok (.invokevirtual 58, 3) := by decide +kernel
theorem dX5_monthNow_8 : decode cX5_monthNow 8 = .ok (.invokestatic 62, 3) := by decide +kernel
theorem dX5_monthNow_11 : decode cX5_monthNow 11 = .ok (.invokestatic 44, 3) := by decide +kernel
theorem dX5_monthNow_14 : decode cX5_monthNow 14 = .ok (.isub, 1) := by decide +kernel
theorem dX5_monthNow_15 : decode cX5_monthNow 15 = .ok (.istore_n 1, 1) := by decide +kernel
theorem dX5_monthNow_16 : decode cX5_monthNow 16 = .ok (.iconst 1, 1) := by decide +kernel
theorem dX5_monthNow_17 : decode cX5_monthNow 17 = .ok (.istore_n 2, 1) := by decide +kernel
theorem dX5_monthNow_18 : decode cX5_monthNow 18 = .ok (.iload_n 1, 1) := by decide +kernel
theorem dX5_monthNow_19 : decode cX5_monthNow 19 = .ok (.aload_n 0, 1) := by decide +kernel
theorem dX5_monthNow_20 : decode cX5_monthNow 20 = .ok (.invokevirtual 58, 3) := by decide +kernel
theorem dX5_monthNow_23 : decode cX5_monthNow 23 = .ok (.invokestatic 62, 3) := by decide +kernel
theorem dX5_monthNow_26 : decode cX5_monthNow 26 = .ok (.iload_n 2, 1) := by decide +kernel
theorem dX5_monthNow_27 : decode cX5_monthNow 27 = .ok (.invokestatic 48, 3) := by decide +kernel
theorem dX5_monthNow_30 : decode cX5_monthNow 30 = .ok (.if_icmp .lt 23, 3) := by decide +kernel
theorem dX5_monthNow_33 : decode cX5_monthNow 33 = .ok (.iload_n 1, 1) := by decide +kernel
theorem dX5_monthNow_34 : decode cX5_monthNow 34 = .ok (.aload_n 0, 1) := by decide +kernel
theorem dX5_monthNow_35 : decode cX5_monthNow 35 = .ok (.invokevirtual 58, 3) := by decide +kernel
theorem dX5_monthNow_38 : decode cX5_monthNow 38 = .ok (.invokestatic 62, 3) := by decide +kernel
theorem dX5_monthNow_41 : decode cX5_monthNow 41 = .ok (.iload_n 2, 1) := by decide +kernel
theorem dX5_monthNow_42 : decode cX5_monthNow 42 = .ok (.invokestatic 48, 3) := by decide +kernel
theorem dX5_monthNow_45 : decode cX5_monthNow 45 = .ok (.isub, 1) := by decide +kernel
theorem dX5_monthNow_46 : decode cX5_monthNow 46 = .ok (.istore_n 1, 1) := by decide +kernel
theorem dX5_monthNow_47 : decode cX5_monthNow 47 = .ok (.iinc 2 1, 3) := by decide +kernel
theorem dX5_monthNow_50 : decode cX5_monthNow 50 = .ok (.goto (-32), 3) := by decide +kernel
theorem dX5_monthNow_53 : decode cX5_monthNow 53 = .ok (.iload_n 2, 1) := by decide +kernel
theorem dX5_monthNow_54 : decode cX5_monthNow 54 = .ok (.ireturn, 1) := by decide +kernel
theorem dX5_number_0 : decode cX5_number 0 = .ok (.iconst 0, 1) := by decide +kernel
theorem dX5_number_1 : decode cX5_number 1 = .ok (.istore_n 2, 1) := by decide +kernel
theorem dX5_number_2 : decode cX5_number 2 = .ok (.iconst 0, 1) := by decide +kernel
theorem dX5_number_3 : decode cX5_number 3 = .ok (.istore_n 3, 1) := by decide +kernel
theorem dX5_number_4 : decode cX5_number 4 = .ok (.iload_n 3, 1) := by decide +kernel
theorem dX5_number_5 : decode cX5_number 5 = .ok (.iload_n 1, 1) := by decide +kernel
theorem dX5_number_6 : decode cX5_number 6 = .ok (.if_icmp .ge 69, 3) := by decide +kernel
theorem dX5_number_9 : decode cX5_number 9 = .ok (.aload_n 0, 1) := by decide +kernel
theorem dX5_number_10 : decode cX5_number 10 = .ok (.aload_n 0, 1) := by decide +kernel
theorem dX5_number_11 : decode cX5_number 11 = .ok (.getfield 68, 3) := by decide +kernel
theorem dX5_number_14 : decode cX5_number 14 = .ok (.ifCond .ne 10, 3) := by decide +kernel
theorem dX5_number_17 : decode cX5_number 17 = .ok (.aload_n 0, 1) := by decide +kernel
theorem dX5_number_18 : decode cX5_number 18 = .ok (.invokevirtual 72, 3) := by decide +kernel
theorem dX5_number_21 : decode cX5_number 21 = .ok (.ifCond .ne 7, 3) := by decide +kernel
theorem dX5_number_24 : decode cX5_number 24 = .ok (.iconst 1, 1) := by decide +kernel
theorem dX5_number_25 : decode cX5_number 25 = .ok (.goto 4, 3) := by decide +kernel
theorem dX5_number_28 : decode cX5_number 28 = .ok (.iconst 0, 1) := by decide +kernel
theorem dX5_number_29 : decode cX5_number 29 = .ok (.putfield 68, 3) := by decide +kernel
theorem dX5_number_32 : decode cX5_number 32 = .ok (.aload_n 0, 1) := by decide +kernel
theorem dX5_number_33 : decode cX5_number 33 = .ok (.getfield 68, 3) := by decide +kernel
theorem dX5_number_36 : decode cX5_number 36 = .ok (.ifCond .eq 5, 3) := by decide +kernel
theorem dX5_number_39 : decode cX5_number 39 = .ok (.iconst 0, 1) := by decide +kernel
theorem dX5_number_40 : decode cX5_number 40 = .ok (.ireturn, 1) := by decide +kernel
theorem dX5_number_41 : decode cX5_number 41 = .ok (.bipush 10, 2) := by decide +kernel
theorem dX5_number_43 : decode cX5_number 43 = .ok (.iload_n 2, 1) := by decide +kernel
theorem dX5_number_44 : decode cX5_number 44 = .ok (.imul, 1) := by decide +kernel
theorem dX5_number_45 : decode cX5_number 45 = .ok (.aload_n 0, 1) := by decide +kernel
theorem dX5_number_46 : decode cX5_number 46 = .ok (.getfield 7, 3) := by decide +kernel
theorem dX5_number_49 : decode cX5_number 49 = .ok (.aload_n 0, 1) := by decide +kernel
theorem dX5_number_50 : decode cX5_number 50 = .ok (.getfield 65, 3) := by decide +kernel
theorem dX5_number_53 : decode cX5_number 53 = .ok (.iaload, 1) := by decide +kernel
theorem dX5_number_54 : decode cX5_number 54 = .ok (.iadd, 1) := by decide +kernel
theorem dX5_number_55 : decode cX5_number 55 = .ok (.bipush 48, 2) := by decide +kernel
theorem dX5_number_57 : decode cX5_number 57 = .ok (.isub, 1) := by decide +kernel
theorem dX5_number_58 : decode cX5_number 58 = .ok (.istore_n 2, 1) := by decide +kernel
theorem dX5_number_59 : decode cX5_number 59 = .ok (.aload_n 0, 1) := by decide +kernel
theorem dX5_number_60 : decode cX5_number 60 = .ok (.dup, 1) := by decide +kernel
theorem dX5_number_61 : decode cX5_number 61 = .ok (.getfield 65, 3) := by decide +kernel
theorem dX5_number_64 : decode cX5_number 64 = .ok (.iconst 1, 1) := by decide +kernel
theorem dX5_number_65 : decode cX5_number 65 = .ok (.iadd, 1) := by decide +kernel
theorem dX5_number_66 : decode cX5_number 66 = .ok (.putfield 65, 3) := by decide +kernel
theorem dX5_number_69 : decode cX5_number 69 = .ok (.iinc 3 1, 3) := by decide +kernel
theorem dX5_number_72 : decode cX5_number 72 = .ok (.goto (-68), 3) := by decide +kernel
theorem dX5_number_75 : decode cX5_number 75 = .ok (.iload_n 2, 1) := by decide +kernel
theorem dX5_number_76 : decode cX5_number 76 = .ok (.ireturn, 1) := by decide +kernel
theorem dX5_readLong_0 : decode cX5_readLong 0 = .ok (.iconst 0, 1) := by decide +kernel
theorem dX5_readLong_1 : decode cX5_readLong 1 = .ok (.istore_n 1, 1) := by decide +kernel
theorem dX5_readLong_2 : decode cX5_readLong 2 = .ok (.sipush 3600, 3) := by decide +kernel
theorem dX5_readLong_5 : decode cX5_readLong 5 = .ok (.istore_n 2, 1) := by decide +kernel
theorem dX5_readLong_6 : decode cX5_readLong 6 = .ok (.aload_n 0, 1) := by decide +kernel
theorem dX5_readLong_7 : decode cX5_readLong 7 = .ok (.invokevirtual 72, 3) := by decide +kernel
theorem dX5_readLong_10 : decode cX5_readLong 10 = .ok (.ifCond .eq 36, 3) := by decide +kernel
theorem dX5_readLong_13 : decode cX5_readLong 13 = .ok (.bipush 60, 2) := by decide +kernel
theorem dX5_readLong_15 : decode cX5_readLong 15 = .ok (.aload_n 0, 1) := by decide +kernel
theorem dX5_readLong_16 : decode cX5_readLong 16 = .ok (.iconst 0, 1) := by decide +kernel
theorem dX5_readLong_17 : decode cX5_readLong 17 = .ok (.bipush 59, 2) := by decide +kernel
theorem dX5_readLong_19 : decode cX5_readLong 19 = .ok (.invokevirtual 82, 3) := by decide +kernel
theorem dX5_readLong_22 : decode cX5_readLong 22 = .ok (.imul, 1) := by decide +kernel
theorem dX5_readLong_23 : decode cX5_readLong 23 = .ok (.istore_n 1, 1) := by decide +kernel
theorem dX5_readLong_24 : decode cX5_readLong 24 = .ok (.bipush 60, 2) := by decide +kernel
theorem dX5_readLong_26 : decode cX5_readLong 26 = .ok (.istore_n 2, 1) := by decide +kernel
theorem dX5_readLong_27 : decode cX5_readLong 27 = .ok (.aload_n 0, 1) := by decide +kernel
theorem dX5_readLong_28 : decode cX5_readLong 28 = .ok (.invokevirtual 72, 3) := by decide +kernel
theorem dX5_readLong_31 : decode cX5_readLong 31 = .ok (.ifCond .eq 15, 3) := by decide +kernel
theorem dX5_readLong_34 : decode cX5_readLong 34 = .ok (.iload_n 1, 1) := by decide +kernel
theorem dX5_readLong_35 : decode cX5_readLong 35 = .ok (.aload_n 0, 1) := by decide +kernel
theorem dX5_readLong_36 : decode cX5_readLong 36 = .ok (.iconst 0, 1) := by decide +kernel
theorem dX5_readLong_37 : decode cX5_readLong 37 = .ok (.bipush 59, 2) := by decide +kernel
theorem dX5_readLong_39 : decode cX5_readLong 39 = .ok (.invokevirtual 82, 3) := by decide +kernel
theorem dX5_readLong_42 : decode cX5_readLong 42 = .ok (.iadd, 1) := by decide +kernel
theorem dX5_readLong_43 : decode cX5_readLong 43 = .ok (.istore_n 1, 1) := by decide +kernel
theorem dX5_readLong_44 : decode cX5_readLong 44 = .ok (.iconst 1, 1) := by decide +kernel
theorem dX5_readLong_45 : decode cX5_readLong 45 = .ok (.istore_n 2, 1) := by decide +kernel
theorem dX5_readLong_46 : decode cX5_readLong 46 = .ok (.aload_n 0, 1) := by decide +kernel
theorem dX5_readLong_47 : decode cX5_readLong 47 = .ok (.getfield 68, 3) := by decide +kernel
theorem dX5_readLong_50 : decode cX5_readLong 50 = .ok (.ifCond .ne 50, 3) := by decide +kernel
theorem dX5_readLong_53 : decode cX5_readLong 53 = .ok (.aload_n 0, 1) := by decide +kernel
theorem dX5_readLong_54 : decode cX5_readLong 54 = .ok (.getfield 65, 3) := by decide +kernel
theorem dX5_readLong_57 : decode cX5_readLong 57 = .ok (.aload_n 0, 1) := by decide +kernel
theorem dX5_readLong_58 : decode cX5_readLong 58 = .ok (.getfield 33, 3) := by decide +kernel
theorem dX5_readLong_61 : decode cX5_readLong 61 = .ok (.if_icmp .ge 39, 3) := by decide +kernel
theorem dX5_readLong_64 : decode cX5_readLong 64 = .ok (.aload_n 0, 1) := by decide +kernel
theorem dX5_readLong_65 : decode cX5_readLong 65 = .ok (.getfield 7, 3) := by decide +kernel
theorem dX5_readLong_68 : decode cX5_readLong 68 = .ok (.aload_n 0, 1) := by decide +kernel
theorem dX5_readLong_69 : decode cX5_readLong 69 = .ok (.getfield 65, 3) := by decide +kernel
theorem dX5_readLong_72 : decode cX5_readLong 72 = .ok (.iaload, 1) := by decide +kernel
theorem dX5_readLong_73 : decode cX5_readLong 73 = .ok (.bipush 46, 2) := by decide +kernel
theorem dX5_readLong_75 : decode cX5_readLong 75 = .ok (.if_icmp .eq 17, 3) := by decide +kernel
theorem dX5_readLong_78 : decode cX5_readLong 78 = .ok (.aload_n 0, 1) := by decide +kernel
theorem dX5_readLong_79 : decode cX5_readLong 79 = .ok (.getfield 7, 3) := by decide +kernel
theorem dX5_readLong_82 : decode cX5_readLong 82 = .ok (.aload_n 0, 1) := by decide +kernel
theorem dX5_readLong_83 : decode cX5_readLong 83 = .ok (.getfield 65, 3) := by decide +kernel
theorem dX5_readLong_86 : decode cX5_readLong 86 = .ok (.iaload, 1) := by decide +kernel
theorem dX5_readLong_87 : decode cX5_readLong 87 = .ok (.bipush 44, 2) := by decide +kernel
theorem dX5_readLong_89 : decode cX5_readLong 89 = .ok (.if_icmp .ne 11, 3) := by decide +kernel
theorem dX5_readLong_92 : decode cX5_readLong 92 = .ok (.iload_n 1, 1) := by decide +kernel
theorem dX5_readLong_93 : decode cX5_readLong 93 = .ok (.aload_n 0, 1) := by decide +kernel
theorem dX5_readLong_94 : decode cX5_readLong 94 = .ok (.iload_n 2, 1) := by decide +kernel
theorem dX5_readLong_95 : decode cX5_readLong 95 = .ok (.invokevirtual 85, 3) := by decide +kernel
theorem dX5_readLong_98 : decode cX5_readLong 98 = .ok (.iadd, 1) := by decide +kernel
theorem dX5_readLong_99 : decode cX5_readLong 99 = .ok (.istore_n 1, 1) := by decide +kernel
theorem dX5_readLong_100 : decode cX5_readLong 100 = .ok (.iload_n 1, 1) := by decide +kernel
theorem dX5_readLong_101 : decode cX5_readLong 101 = .ok (.ireturn, 1) := by decide +kernel
theorem dX5_readPart_0 : decode cX5_readPart 0 = .ok (.aload_n 0, 1) := by decide +kernel
theorem dX5_readPart_1 : decode cX5_readPart 1 = .ok (.dup, 1) := by decide +kernel
theorem dX5_readPart_2 : decode cX5_readPart 2 = .ok (.getfield 65, 3) := by decide +kernel
theorem dX5_readPart_5 : decode cX5_readPart 5 = .ok (.iconst 1, 1) := by decide +kernel
theorem dX5_readPart_6 : decode cX5_readPart 6 = .ok (.iadd, 1) := by decide +kernel
theorem dX5_readPart_7 : decode cX5_readPart 7 = .ok (.putfield 65, 3) := by decide +kernel
theorem dX5_readPart_10 : decode cX5_readPart 10 = .ok (.aload_n 0, 1) := by decide +kernel
theorem dX5_readPart_11 : decode cX5_readPart 11 = .ok (.aload_n 0, 1) := by decide +kernel
theorem dX5_readPart_12 : decode cX5_readPart 12 = .ok (.getfield 68, 3) := by decide +kernel
theorem dX5_readPart_15 : decode cX5_readPart 15 = .ok (.ifCond .ne 10, 3) := by decide +kernel
theorem dX5_readPart_18 : decode cX5_readPart 18 = .ok (.aload_n 0, 1) := by decide +kernel
theorem dX5_readPart_19 : decode cX5_readPart 19 = .ok (.invokevirtual 72, 3) := by decide +kernel
theorem dX5_readPart_22 : decode cX5_readPart 22 = .ok (.ifCond .ne 7, 3) := by decide +kernel
theorem dX5_readPart_25 : decode cX5_readPart 25 = .ok (.iconst 1, 1) := by decide +kernel
theorem dX5_readPart_26 : decode cX5_readPart 26 = .ok (.goto 4, 3) := by decide +kernel
theorem dX5_readPart_29 : decode cX5_readPart 29 = .ok (.iconst 0, 1) := by decide +kernel
theorem dX5_readPart_30 : decode cX5_readPart 30 = .ok (.putfield 68, 3) := by decide +kernel
theorem dX5_readPart_33 : decode cX5_readPart 33 = .ok (.aload_n 0, 1) := by decide +kernel
theorem dX5_readPart_34 : decode cX5_readPart 34 = .ok (.getfield 68, 3) := by decide +kernel
theorem dX5_readPart_37 : decode cX5_readPart 37 = .ok (.ifCond .ne 54, 3) := by decide +kernel
theorem dX5_readPart_40 : decode cX5_readPart 40 = .ok (.aload_n 0, 1) := by decide +kernel
theorem dX5_readPart_41 : decode cX5_readPart 41 = .ok (.invokevirtual 72, 3) := by decide +kernel
theorem dX5_readPart_44 : decode cX5_readPart 44 = .ok (.ifCond .eq 47, 3) := by decide +kernel
theorem dX5_readPart_47 : decode cX5_readPart 47 = .ok (.aload_n 0, 1) := by decide +kernel
theorem dX5_readPart_48 : decode cX5_readPart 48 = .ok (.getfield 13, 3) := by decide +kernel
theorem dX5_readPart_51 : decode cX5_readPart 51 = .ok (.aload_n 0, 1) := by decide +kernel
theorem dX5_readPart_52 : decode cX5_readPart 52 = .ok (.getfield 79, 3) := by decide +kernel
theorem dX5_readPart_55 : decode cX5_readPart 55 = .ok (.aload_n 0, 1) := by decide +kernel
theorem dX5_readPart_56 : decode cX5_readPart 56 = .ok (.getfield 7, 3) := by decide +kernel
theorem dX5_readPart_59 : decode cX5_readPart 59 = .ok (.aload_n 0, 1) := by decide +kernel
theorem dX5_readPart_60 : decode cX5_readPart 60 = .ok (.getfield 65, 3) := by decide +kernel
theorem dX5_readPart_63 : decode cX5_readPart 63 = .ok (.iaload, 1) := by decide +kernel
theorem dX5_readPart_64 : decode cX5_readPart 64 = .ok (.bipush 48, 2) := by decide +kernel
theorem dX5_readPart_66 : decode cX5_readPart 66 = .ok (.isub, 1) := by decide +kernel
theorem dX5_readPart_67 : decode cX5_readPart 67 = .ok (.iastore, 1) := by decide +kernel
theorem dX5_readPart_68 : decode cX5_readPart 68 = .ok (.aload_n 0, 1) := by decide +kernel
theorem dX5_readPart_69 : decode cX5_readPart 69 = .ok (.dup, 1) := by decide +kernel
theorem dX5_readPart_70 : decode cX5_readPart 70 = .ok (.getfield 79, 3) := by decide +kernel
theorem dX5_readPart_73 : decode cX5_readPart 73 = .ok (.iconst 1, 1) := by decide +kernel
theorem dX5_readPart_74 : decode cX5_readPart 74 = .ok (.iadd, 1) := by decide +kernel
theorem dX5_readPart_75 : decode cX5_readPart 75 = .ok (.putfield 79, 3) := by decide +kernel
theorem dX5_readPart_78 : decode cX5_readPart 78 = .ok (.aload_n 0, 1) := by decide +kernel
theorem dX5_readPart_79 : decode cX5_readPart 79 = .ok (.dup, 1) := by decide +kernel
theorem dX5_readPart_80 : decode cX5_readPart 80 = .ok (.getfield 65, 3) := by decide +kernel
theorem dX5_readPart_83 : decode cX5_readPart 83 = .ok (.iconst 1, 1) := by decide +kernel
theorem dX5_readPart_84 : decode cX5_readPart 84 = .ok (.iadd, 1) := by decide +kernel
theorem dX5_readPart_85 : decode cX5_readPart 85 = .ok (.putfield 65, 3) := by decide +kernel
theorem dX5_readPart_88 : decode cX5_readPart 88 = .ok (.goto (-55), 3) := by decide +kernel
theorem dX5_readPart_91 : decode cX5_readPart 91 = .ok (.iconst 0, 1) := by decide +kernel
theorem dX5_readPart_92 : decode cX5_readPart 92 = .ok (.istore_n 2, 1) := by decide +kernel
theorem dX5_readPart_93 : decode cX5_readPart 93 = .ok (.aload_n 0, 1) := by decide +kernel
theorem dX5_readPart_94 : decode cX5_readPart 94 = .ok (.getfield 79, 3) := by decide +kernel
theorem dX5_readPart_97 : decode cX5_readPart 97 = .ok (.iconst 1, 1) := by decide +kernel
theorem dX5_readPart_98 : decode cX5_readPart 98 = .ok (.isub, 1) := by decide +kernel
theorem dX5_readPart_99 : decode cX5_readPart 99 = .ok (.istore_n 3, 1) := by decide +kernel
theorem dX5_readPart_100 : decode cX5_readPart 100 = .ok (.iload_n 3, 1) := by decide +kernel
theorem dX5_readPart_101 : decode cX5_readPart 101 = .ok (.ifCond .lt 38, 3) := by decide +kernel
theorem dX5_readPart_104 : decode cX5_readPart 104 = .ok (.aload_n 0, 1) := by decide +kernel
theorem dX5_readPart_105 : decode cX5_readPart 105 = .ok (.getfield 13, 3) := by decide +kernel
theorem dX5_readPart_108 : decode cX5_readPart 108 = .ok (.iload_n 3, 1) := by decide +kernel
theorem dX5_readPart_109 : decode cX5_readPart 109 = .ok (.iaload, 1) := by decide +kernel
theorem dX5_readPart_110 : decode cX5_readPart 110 = .ok (.iload_n 1, 1) := by decide +kernel
theorem dX5_readPart_111 : decode cX5_readPart 111 = .ok (.imul, 1) := by decide +kernel
theorem dX5_readPart_112 : decode cX5_readPart 112 = .ok (.iload_n 2, 1) := by decide +kernel
theorem dX5_readPart_113 : decode cX5_readPart 113 = .ok (.iadd, 1) := by decide +kernel
theorem dX5_readPart_114 : decode cX5_readPart 114 = .ok (.istore 4, 2) := by decide +kernel
theorem dX5_readPart_116 : decode cX5_readPart 116 = .ok (.aload_n 0, 1) := by decide +kernel
theorem dX5_readPart_117 : decode cX5_readPart 117 = .ok (.getfield 13, 3) := by decide +kernel
theorem dX5_readPart_120 : decode cX5_readPart 120 = .ok (.iload_n 3, 1) := by decide +kernel
theorem dX5_readPart_121 : decode cX5_readPart 121 = .ok (.iload 4, 2) := by decide +kernel
theorem dX5_readPart_123 : decode cX5_readPart 123 = .ok (.bipush 10, 2) := by decide +kernel
theorem dX5_readPart_125 : decode cX5_readPart 125 = .ok (.irem, 1) := by decide +kernel
theorem dX5_readPart_126 : decode cX5_readPart 126 = .ok (.iastore, 1) := by decide +kernel
theorem dX5_readPart_127 : decode cX5_readPart 127 = .ok (.iload 4, 2) := by decide +kernel
theorem dX5_readPart_129 : decode cX5_readPart 129 = .ok (.bipush 10, 2) := by decide +kernel
theorem dX5_readPart_131 : decode cX5_readPart 131 = .ok (.idiv, 1) := by decide +kernel
theorem dX5_readPart_132 : decode cX5_readPart 132 = .ok (.istore_n 2, 1) := by decide +kernel
theorem dX5_readPart_133 : decode cX5_readPart 133 = .ok (.iinc 3 (-1), 3) := by decide +kernel
theorem dX5_readPart_136 : decode cX5_readPart 136 = .ok (.goto (-36), 3) := by decide +kernel
theorem dX5_readPart_139 : decode cX5_readPart 139 = .ok (.aload_n 0, 1) := by decide +kernel
theorem dX5_readPart_140 : decode cX5_readPart 140 = .ok (.getfield 79, 3) := by decide +kernel
theorem dX5_readPart_143 : decode cX5_readPart 143 = .ok (.ifCond .le 30, 3) := by decide +kernel
theorem dX5_readPart_146 : decode cX5_readPart 146 = .ok (.aload_n 0, 1) := by decide +kernel
theorem dX5_readPart_147 : decode cX5_readPart 147 = .ok (.getfield 13, 3) := by decide +kernel
theorem dX5_readPart_150 : decode cX5_readPart 150 = .ok (.aload_n 0, 1) := by decide +kernel
theorem dX5_readPart_151 : decode cX5_readPart 151 = .ok (.getfield 79, 3) := by decide +kernel
theorem dX5_readPart_154 : decode cX5_readPart 154 = .ok (.iconst 1, 1) := by decide +kernel
theorem dX5_readPart_155 : decode cX5_readPart 155 = .ok (.isub, 1) := by decide +kernel
theorem dX5_readPart_156 : decode cX5_readPart 156 = .ok (.iaload, 1) := by decide +kernel
theorem dX5_readPart_157 : decode cX5_readPart 157 = .ok (.ifCond .ne 16, 3) := by decide +kernel
theorem dX5_readPart_160 : decode cX5_readPart 160 = .ok (.aload_n 0, 1) := by decide +kernel
theorem dX5_readPart_161 : decode cX5_readPart 161 = .ok (.dup, 1) := by decide +kernel
theorem dX5_readPart_162 : decode cX5_readPart 162 = .ok (.getfield 79, 3) := by decide +kernel
theorem dX5_readPart_165 : decode cX5_readPart 165 = .ok (.iconst 1, 1) := by decide +kernel
theorem dX5_readPart_166 : decode cX5_readPart 166 = .ok (.isub, 1) := by decide +kernel
theorem dX5_readPart_167 : decode cX5_readPart 167 = .ok (.putfield 79, 3) := by decide +kernel
theorem dX5_readPart_170 : decode cX5_readPart 170 = .ok (.goto (-31), 3) := by decide +kernel
theorem dX5_readPart_173 : decode cX5_readPart 173 = .ok (.iload_n 2, 1) := by decide +kernel
theorem dX5_readPart_174 : decode cX5_readPart 174 = .ok (.ireturn, 1) := by decide +kernel
theorem dX5_readShort_0 : decode cX5_readShort 0 = .ok (.bipush 60, 2) := by decide +kernel
theorem dX5_readShort_2 : decode cX5_readShort 2 = .ok (.aload_n 0, 1) := by decide +kernel
theorem dX5_readShort_3 : decode cX5_readShort 3 = .ok (.iconst 0, 1) := by decide +kernel
theorem dX5_readShort_4 : decode cX5_readShort 4 = .ok (.bipush 59, 2) := by decide +kernel
theorem dX5_readShort_6 : decode cX5_readShort 6 = .ok (.invokevirtual 82, 3) := by decide +kernel
theorem dX5_readShort_9 : decode cX5_readShort 9 = .ok (.imul, 1) := by decide +kernel
theorem dX5_readShort_10 : decode cX5_readShort 10 = .ok (.istore_n 1, 1) := by decide +kernel
theorem dX5_readShort_11 : decode cX5_readShort 11 = .ok (.aload_n 0, 1) := by decide +kernel
theorem dX5_readShort_12 : decode cX5_readShort 12 = .ok (.invokevirtual 72, 3) := by decide +kernel
theorem dX5_readShort_15 : decode cX5_readShort 15 = .ok (.ifCond .eq 15, 3) := by decide +kernel
theorem dX5_readShort_18 : decode cX5_readShort 18 = .ok (.iload_n 1, 1) := by decide +kernel
theorem dX5_readShort_19 : decode cX5_readShort 19 = .ok (.aload_n 0, 1) := by decide +kernel
theorem dX5_readShort_20 : decode cX5_readShort 20 = .ok (.iconst 0, 1) := by decide +kernel
theorem dX5_readShort_21 : decode cX5_readShort 21 = .ok (.bipush 59, 2) := by decide +kernel
theorem dX5_readShort_23 : decode cX5_readShort 23 = .ok (.invokevirtual 82, 3) := by decide +kernel
theorem dX5_readShort_26 : decode cX5_readShort 26 = .ok (.iadd, 1) := by decide +kernel
theorem dX5_readShort_27 : decode cX5_readShort 27 = .ok (.goto 4, 3) := by decide +kernel
theorem dX5_readShort_30 : decode cX5_readShort 30 = .ok (.iload_n 1, 1) := by decide +kernel
