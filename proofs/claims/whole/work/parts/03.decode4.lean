theorem dX4_read_97 : decode cX4_read 97 = .ok (.getfield 48, 3) := by decide +kernel
theorem dX4_read_100 : decode cX4_read 100 = .ok (.ireturn, 1) := by decide +kernel
theorem dX4_seconds_0 : decode cX4_seconds 0 = .ok (.aload_n 0, 1) := by decide +kernel
theorem dX4_seconds_1 : decode cX4_seconds 1 = .ok (.getfield 40, 3) := by decide +kernel
theorem dX4_seconds_4 : decode cX4_seconds 4 = .ok (.ifCond .ne 13, 3) := by decide +kernel
theorem dX4_seconds_7 : decode cX4_seconds 7 = .ok (.new 51, 3) := by decide +kernel
theorem dX4_seconds_10 : decode cX4_seconds 10 = .ok (.dup, 1) := by decide +kernel
theorem dX4_seconds_11 : decode cX4_seconds 11 = .ok (.ldc 89, 2) := by decide +kernel
theorem dX4_seconds_13 : decode cX4_seconds 13 = .ok (.invokespecial 55, 3) := by decide +kernel
theorem dX4_seconds_16 : decode cX4_seconds 16 = .ok (.athrow, 1) := by decide +kernel
theorem dX4_seconds_17 : decode cX4_seconds 17 = .ok (.aload_n 0, 1) := by decide +kernel
theorem dX4_seconds_18 : decode cX4_seconds 18 = .ok (.getfield 29, 3) := by decide +kernel
theorem dX4_seconds_21 : decode cX4_seconds 21 = .ok (.invokevirtual 94, 3) := by decide +kernel
theorem dX4_seconds_24 : decode cX4_seconds 24 = .ok (.lreturn, 1) := by decide +kernel
theorem dX4_unit_0 : decode cX4_unit 0 = .ok (.aload_n 0, 1) := by decide +kernel
theorem dX4_unit_1 : decode cX4_unit 1 = .ok (.getfield 40, 3) := by decide +kernel
theorem dX4_unit_4 : decode cX4_unit 4 = .ok (.ifCond .ne 13, 3) := by decide +kernel
theorem dX4_unit_7 : decode cX4_unit 7 = .ok (.new 51, 3) := by decide +kernel
theorem dX4_unit_10 : decode cX4_unit 10 = .ok (.dup, 1) := by decide +kernel
theorem dX4_unit_11 : decode cX4_unit 11 = .ok (.ldc 89, 2) := by decide +kernel
theorem dX4_unit_13 : decode cX4_unit 13 = .ok (.invokespecial 55, 3) := by decide +kernel
theorem dX4_unit_16 : decode cX4_unit 16 = .ok (.athrow, 1) := by decide +kernel
theorem dX4_unit_17 : decode cX4_unit 17 = .ok (.iload_n 1, 1) := by decide +kernel
theorem dX4_unit_18 : decode cX4_unit 18 = .ok (.tableswitch 110 0 7 #[46, 54, 62, 70, 78, 86, 94, 102], 46) := by decide +kernel
theorem dX4_unit_64 : decode cX4_unit 64 = .ok (.aload_n 0, 1) := by decide +kernel
theorem dX4_unit_65 : decode cX4_unit 65 = .ok (.getfield 29, 3) := by decide +kernel
theorem dX4_unit_68 : decode cX4_unit 68 = .ok (.getfield 98, 3) := by decide +kernel
theorem dX4_unit_71 : decode cX4_unit 71 = .ok (.ireturn, 1) := by decide +kernel
theorem dX4_unit_72 : decode cX4_unit 72 = .ok (.aload_n 0, 1) := by decide +kernel
theorem dX4_unit_73 : decode cX4_unit 73 = .ok (.getfield 29, 3) := by decide +kernel
theorem dX4_unit_76 : decode cX4_unit 76 = .ok (.getfield 101, 3) := by decide +kernel
theorem dX4_unit_79 : decode cX4_unit 79 = .ok (.ireturn, 1) := by decide +kernel
theorem dX4_unit_80 : decode cX4_unit 80 = .ok (.aload_n 0, 1) := by decide +kernel
theorem dX4_unit_81 : decode cX4_unit 81 = .ok (.getfield 29, 3) := by decide +kernel
theorem dX4_unit_84 : decode cX4_unit 84 = .ok (.getfield 104, 3) := by decide +kernel
theorem dX4_unit_87 : decode cX4_unit 87 = .ok (.ireturn, 1) := by decide +kernel
theorem dX4_unit_88 : decode cX4_unit 88 = .ok (.aload_n 0, 1) := by decide +kernel
theorem dX4_unit_89 : decode cX4_unit 89 = .ok (.getfield 29, 3) := by decide +kernel
theorem dX4_unit_92 : decode cX4_unit 92 = .ok (.getfield 107, 3) := by decide +kernel
theorem dX4_unit_95 : decode cX4_unit 95 = .ok (.ireturn, 1) := by decide +kernel
theorem dX4_unit_96 : decode cX4_unit 96 = .ok (.aload_n 0, 1) := by decide +kernel
theorem dX4_unit_97 : decode cX4_unit 97 = .ok (.getfield 29, 3) := by decide +kernel
theorem dX4_unit_100 : decode cX4_unit 100 = .ok (.getfield 110, 3) := by decide +kernel
theorem dX4_unit_103 : decode cX4_unit 103 = .ok (.ireturn, 1) := by decide +kernel
theorem dX4_unit_104 : decode cX4_unit 104 = .ok (.aload_n 0, 1) := by decide +kernel
theorem dX4_unit_105 : decode cX4_unit 105 = .ok (.getfield 29, 3) := by decide +kernel
theorem dX4_unit_108 : decode cX4_unit 108 = .ok (.getfield 113, 3) := by decide +kernel
theorem dX4_unit_111 : decode cX4_unit 111 = .ok (.ireturn, 1) := by decide +kernel
theorem dX4_unit_112 : decode cX4_unit 112 = .ok (.aload_n 0, 1) := by decide +kernel
theorem dX4_unit_113 : decode cX4_unit 113 = .ok (.getfield 29, 3) := by decide +kernel
theorem dX4_unit_116 : decode cX4_unit 116 = .ok (.getfield 116, 3) := by decide +kernel
theorem dX4_unit_119 : decode cX4_unit 119 = .ok (.ireturn, 1) := by decide +kernel
theorem dX4_unit_120 : decode cX4_unit 120 = .ok (.aload_n 0, 1) := by decide +kernel
theorem dX4_unit_121 : decode cX4_unit 121 = .ok (.getfield 29, 3) := by decide +kernel
theorem dX4_unit_124 : decode cX4_unit 124 = .ok (.invokevirtual 119, 3) := by decide +kernel
theorem dX4_unit_127 : decode cX4_unit 127 = .ok (.ireturn, 1) := by decide +kernel
theorem dX4_unit_128 : decode cX4_unit 128 = .ok (.new 80, 3) := by decide +kernel
theorem dX4_unit_131 : decode cX4_unit 131 = .ok (.dup, 1) := by decide +kernel
theorem dX4_unit_132 : decode cX4_unit 132 = .ok (.ldc 123, 2) := by decide +kernel
theorem dX4_unit_134 : decode cX4_unit 134 = .ok (.invokespecial 84, 3) := by decide +kernel
theorem dX4_unit_137 : decode cX4_unit 137 = .ok (.athrow, 1) := by decide +kernel
theorem dX4_writeMoment_0 : decode cX4_writeMoment 0 = .ok (.iload_n 1, 1) := by decide +kernel
theorem dX4_writeMoment_1 : decode cX4_writeMoment 1 = .ok (.iconst 1, 1) := by decide +kernel
theorem dX4_writeMoment_2 : decode cX4_writeMoment 2 = .ok (.if_icmp .ne 20, 3) := by decide +kernel
theorem dX4_writeMoment_5 : decode cX4_writeMoment 5 = .ok (.aload_n 0, 1) := by decide +kernel
theorem dX4_writeMoment_6 : decode cX4_writeMoment 6 = .ok (.getfield 16, 3) := by decide +kernel
theorem dX4_writeMoment_9 : decode cX4_writeMoment 9 = .ok (.aload_n 0, 1) := by decide +kernel
theorem dX4_writeMoment_10 : decode cX4_writeMoment 10 = .ok (.getfield 29, 3) := by decide +kernel
theorem dX4_writeMoment_13 : decode cX4_writeMoment 13 = .ok (.getfield 98, 3) := by decide +kernel
theorem dX4_writeMoment_16 : decode cX4_writeMoment 16 = .ok (.bipush 100, 2) := by decide +kernel
theorem dX4_writeMoment_18 : decode cX4_writeMoment 18 = .ok (.idiv, 1) := by decide +kernel
theorem dX4_writeMoment_19 : decode cX4_writeMoment 19 = .ok (.invokevirtual 152, 3) := by decide +kernel
theorem dX4_writeMoment_22 : decode cX4_writeMoment 22 = .ok (.aload_n 0, 1) := by decide +kernel
theorem dX4_writeMoment_23 : decode cX4_writeMoment 23 = .ok (.getfield 16, 3) := by decide +kernel
theorem dX4_writeMoment_26 : decode cX4_writeMoment 26 = .ok (.aload_n 0, 1) := by decide +kernel
theorem dX4_writeMoment_27 : decode cX4_writeMoment 27 = .ok (.getfield 29, 3) := by decide +kernel
theorem dX4_writeMoment_30 : decode cX4_writeMoment 30 = .ok (.getfield 98, 3) := by decide +kernel
theorem dX4_writeMoment_33 : decode cX4_writeMoment 33 = .ok (.bipush 100, 2) := by decide +kernel
theorem dX4_writeMoment_35 : decode cX4_writeMoment 35 = .ok (.irem, 1) := by decide +kernel
theorem dX4_writeMoment_36 : decode cX4_writeMoment 36 = .ok (.invokevirtual 152, 3) := by decide +kernel
theorem dX4_writeMoment_39 : decode cX4_writeMoment 39 = .ok (.aload_n 0, 1) := by decide +kernel
theorem dX4_writeMoment_40 : decode cX4_writeMoment 40 = .ok (.getfield 16, 3) := by decide +kernel
theorem dX4_writeMoment_43 : decode cX4_writeMoment 43 = .ok (.aload_n 0, 1) := by decide +kernel
theorem dX4_writeMoment_44 : decode cX4_writeMoment 44 = .ok (.getfield 29, 3) := by decide +kernel
theorem dX4_writeMoment_47 : decode cX4_writeMoment 47 = .ok (.getfield 101, 3) := by decide +kernel
theorem dX4_writeMoment_50 : decode cX4_writeMoment 50 = .ok (.invokevirtual 152, 3) := by decide +kernel
theorem dX4_writeMoment_53 : decode cX4_writeMoment 53 = .ok (.aload_n 0, 1) := by decide +kernel
theorem dX4_writeMoment_54 : decode cX4_writeMoment 54 = .ok (.getfield 16, 3) := by decide +kernel
theorem dX4_writeMoment_57 : decode cX4_writeMoment 57 = .ok (.aload_n 0, 1) := by decide +kernel
theorem dX4_writeMoment_58 : decode cX4_writeMoment 58 = .ok (.getfield 29, 3) := by decide +kernel
theorem dX4_writeMoment_61 : decode cX4_writeMoment 61 = .ok (.getfield 104, 3) := by decide +kernel
theorem dX4_writeMoment_64 : decode cX4_writeMoment 64 = .ok (.invokevirtual 152, 3) := by decide +kernel
theorem dX4_writeMoment_67 : decode cX4_writeMoment 67 = .ok (.aload_n 0, 1) := by decide +kernel
theorem dX4_writeMoment_68 : decode cX4_writeMoment 68 = .ok (.getfield 16, 3) := by decide +kernel
theorem dX4_writeMoment_71 : decode cX4_writeMoment 71 = .ok (.aload_n 0, 1) := by decide +kernel
theorem dX4_writeMoment_72 : decode cX4_writeMoment 72 = .ok (.getfield 29, 3) := by decide +kernel
theorem dX4_writeMoment_75 : decode cX4_writeMoment 75 = .ok (.getfield 107, 3) := by decide +kernel
theorem dX4_writeMoment_78 : decode cX4_writeMoment 78 = .ok (.invokevirtual 152, 3) := by decide +kernel
theorem dX4_writeMoment_81 : decode cX4_writeMoment 81 = .ok (.aload_n 0, 1) := by decide +kernel
theorem dX4_writeMoment_82 : decode cX4_writeMoment 82 = .ok (.getfield 16, 3) := by decide +kernel
theorem dX4_writeMoment_85 : decode cX4_writeMoment 85 = .ok (.aload_n 0, 1) := by decide +kernel
theorem dX4_writeMoment_86 : decode cX4_writeMoment 86 = .ok (.getfield 29, 3) := by decide +kernel
theorem dX4_writeMoment_89 : decode cX4_writeMoment 89 = .ok (.getfield 110, 3) := by decide +kernel
theorem dX4_writeMoment_92 : decode cX4_writeMoment 92 = .ok (.invokevirtual 152, 3) := by decide +kernel
theorem dX4_writeMoment_95 : decode cX4_writeMoment 95 = .ok (.aload_n 0, 1) := by decide +kernel
theorem dX4_writeMoment_96 : decode cX4_writeMoment 96 = .ok (.getfield 16, 3) := by decide +kernel
theorem dX4_writeMoment_99 : decode cX4_writeMoment 99 = .ok (.aload_n 0, 1) := by decide +kernel
theorem dX4_writeMoment_100 : decode cX4_writeMoment 100 = .ok (.getfield 29, 3) := by decide +kernel
theorem dX4_writeMoment_103 : decode cX4_writeMoment 103 = .ok (.getfield 113, 3) := by decide +kernel
theorem dX4_writeMoment_106 : decode cX4_writeMoment 106 = .ok (.invokevirtual 152, 3) := by decide +kernel
theorem dX4_writeMoment_109 : decode cX4_writeMoment 109 = .ok (.aload_n 0, 1) := by decide +kernel
theorem dX4_writeMoment_110 : decode cX4_writeMoment 110 = .ok (.getfield 29, 3) := by decide +kernel
theorem dX4_writeMoment_113 : decode cX4_writeMoment 113 = .ok (.getfield 116, 3) := by decide +kernel
theorem dX4_writeMoment_116 : decode cX4_writeMoment 116 = .ok (.ifCond .le 50, 3) := by decide +kernel
theorem dX4_writeMoment_119 : decode cX4_writeMoment 119 = .ok (.aload_n 0, 1) := by decide +kernel
theorem dX4_writeMoment_120 : decode cX4_writeMoment 120 = .ok (.getfield 16, 3) := by decide +kernel
theorem dX4_writeMoment_123 : decode cX4_writeMoment 123 = .ok (.bipush 46, 2) := by decide +kernel
theorem dX4_writeMoment_125 : decode cX4_writeMoment 125 = .ok (.invokevirtual 91, 3) := by decide +kernel
theorem dX4_writeMoment_128 : decode cX4_writeMoment 128 = .ok (.iconst 0, 1) := by decide +kernel
theorem dX4_writeMoment_129 : decode cX4_writeMoment 129 = .ok (.istore_n 2, 1) := by decide +kernel
theorem dX4_writeMoment_130 : decode cX4_writeMoment 130 = .ok (.iload_n 2, 1) := by decide +kernel
theorem dX4_writeMoment_131 : decode cX4_writeMoment 131 = .ok (.aload_n 0, 1) := by decide +kernel
theorem dX4_writeMoment_132 : decode cX4_writeMoment 132 = .ok (.getfield 29, 3) := by decide +kernel
theorem dX4_writeMoment_135 : decode cX4_writeMoment 135 = .ok (.getfield 116, 3) := by decide +kernel
theorem dX4_writeMoment_138 : decode cX4_writeMoment 138 = .ok (.if_icmp .ge 28, 3) := by decide +kernel
theorem dX4_writeMoment_141 : decode cX4_writeMoment 141 = .ok (.aload_n 0, 1) := by decide +kernel
theorem dX4_writeMoment_142 : decode cX4_writeMoment 142 = .ok (.getfield 16, 3) := by decide +kernel
theorem dX4_writeMoment_145 : decode cX4_writeMoment 145 = .ok (.bipush 48, 2) := by decide +kernel
theorem dX4_writeMoment_147 : decode cX4_writeMoment 147 = .ok (.aload_n 0, 1) := by decide +kernel
theorem dX4_writeMoment_148 : decode cX4_writeMoment 148 = .ok (.getfield 29, 3) := by decide +kernel
theorem dX4_writeMoment_151 : decode cX4_writeMoment 151 = .ok (.getfield 155, 3) := by decide +kernel
theorem dX4_writeMoment_154 : decode cX4_writeMoment 154 = .ok (.iload_n 2, 1) := by decide +kernel
theorem dX4_writeMoment_155 : decode cX4_writeMoment 155 = .ok (.baload, 1) := by decide +kernel
theorem dX4_writeMoment_156 : decode cX4_writeMoment 156 = .ok (.iadd, 1) := by decide +kernel
theorem dX4_writeMoment_157 : decode cX4_writeMoment 157 = .ok (.invokevirtual 91, 3) := by decide +kernel
theorem dX4_writeMoment_160 : decode cX4_writeMoment 160 = .ok (.iinc 2 1, 3) := by decide +kernel
theorem dX4_writeMoment_163 : decode cX4_writeMoment 163 = .ok (.goto (-33), 3) := by decide +kernel
theorem dX4_writeMoment_166 : decode cX4_writeMoment 166 = .ok (.aload_n 0, 1) := by decide +kernel
theorem dX4_writeMoment_167 : decode cX4_writeMoment 167 = .ok (.getfield 16, 3) := by decide +kernel
theorem dX4_writeMoment_170 : decode cX4_writeMoment 170 = .ok (.bipush 90, 2) := by decide +kernel
theorem dX4_writeMoment_172 : decode cX4_writeMoment 172 = .ok (.invokevirtual 91, 3) := by decide +kernel
theorem dX4_writeMoment_175 : decode cX4_writeMoment 175 = .ok (.return_, 1) := by decide +kernel
