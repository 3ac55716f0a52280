abbrev cX5_put : ByteArray := prog_7_method_23_code
def yX5_put : MethodName := ⟨RX5, "put", "(II)V"⟩
abbrev cX5_readAll : ByteArray := prog_7_method_21_code
def yX5_readAll : MethodName := ⟨RX5, "readAll", "(I)I"⟩
abbrev cX5_unitOf : ByteArray := prog_7_method_29_code
def yX5_unitOf : MethodName := ⟨RX5, "unitOf", "(I)I"⟩
abbrev wsX5_put : List Cond := .code yX5_put cX5_put 5 none :: kw
abbrev wsX5_readAll : List Cond := .code yX5_readAll cX5_readAll 12 (some .int) :: kw
abbrev wsX5_unitOf : List Cond := .code yX5_unitOf cX5_unitOf 3 (some .int) :: kw
theorem kwm_246 : (.code yX5_yearOfText cX5_yearOfText 3 (some .int) : Cond) ∈ kw := kw_in (i := 605) (by decide +kernel) (by decide +kernel)
theorem kwm_247 : (.methodLink RX5 88 yX5_yearOfText : Cond) ∈ kw := kw_in (i := 602) (by decide +kernel) (by decide +kernel)
theorem kwm_248 : (.instanceMethod yX5_yearOfText : Cond) ∈ kw := kw_in (i := 604) (by decide +kernel) (by decide +kernel)
theorem kwm_249 : (.selects RX5 yX5_yearOfText yX5_yearOfText : Cond) ∈ kw := kw_in (i := 17) (by decide +kernel) (by decide +kernel)
theorem kwm_250 : (.code yX5_readLong cX5_readLong 3 (some .int) : Cond) ∈ kw := kw_in (i := 631) (by decide +kernel) (by decide +kernel)
theorem kwm_251 : (.methodLink RX5 94 yX5_readLong : Cond) ∈ kw := kw_in (i := 628) (by decide +kernel) (by decide +kernel)
theorem kwm_252 : (.instanceMethod yX5_readLong : Cond) ∈ kw := kw_in (i := 630) (by decide +kernel) (by decide +kernel)
theorem kwm_253 : (.selects RX5 yX5_readLong yX5_readLong : Cond) ∈ kw := kw_in (i := 22) (by decide +kernel) (by decide +kernel)
theorem kwm_254 : (.code yX5_readZone cX5_readZone 4 (some .int) : Cond) ∈ kw := kw_in (i := 639) (by decide +kernel) (by decide +kernel)
theorem kwm_255 : (.methodLink RX5 97 yX5_readZone : Cond) ∈ kw := kw_in (i := 636) (by decide +kernel) (by decide +kernel)
theorem kwm_256 : (.instanceMethod yX5_readZone : Cond) ∈ kw := kw_in (i := 638) (by decide +kernel) (by decide +kernel)
theorem kwm_257 : (.selects RX5 yX5_readZone yX5_readZone : Cond) ∈ kw := kw_in (i := 24) (by decide +kernel) (by decide +kernel)
theorem kwm_258 : (.code yX5_dayOf cX5_dayOf 5 (some .int) : Cond) ∈ kw := kw_in (i := 643) (by decide +kernel) (by decide +kernel)
theorem kwm_259 : (.methodLink RX5 100 yX5_dayOf : Cond) ∈ kw := kw_in (i := 641) (by decide +kernel) (by decide +kernel)
theorem kwm_260 : (.static yX5_dayOf : Cond) ∈ kw := kw_in (i := 642) (by decide +kernel) (by decide +kernel)
theorem kwm_261 : (.code yX5_readShort cX5_readShort 2 (some .int) : Cond) ∈ kw := kw_in (i := 627) (by decide +kernel) (by decide +kernel)
theorem kwm_262 : (.methodLink RX5 91 yX5_readShort : Cond) ∈ kw := kw_in (i := 624) (by decide +kernel) (by decide +kernel)
theorem kwm_263 : (.instanceMethod yX5_readShort : Cond) ∈ kw := kw_in (i := 626) (by decide +kernel) (by decide +kernel)
theorem kwm_264 : (.selects RX5 yX5_readShort yX5_readShort : Cond) ∈ kw := kw_in (i := 21) (by decide +kernel) (by decide +kernel)
theorem kwm_265 : (.code yX5_monthNow cX5_monthNow 3 (some .int) : Cond) ∈ kw := kw_in (i := 666) (by decide +kernel) (by decide +kernel)
theorem kwm_266 : (.methodLink RX5 128 yX5_monthNow : Cond) ∈ kw := kw_in (i := 663) (by decide +kernel) (by decide +kernel)
theorem kwm_267 : (.instanceMethod yX5_monthNow : Cond) ∈ kw := kw_in (i := 665) (by decide +kernel) (by decide +kernel)
theorem kwm_268 : (.selects RX5 yX5_monthNow yX5_monthNow : Cond) ∈ kw := kw_in (i := 28) (by decide +kernel) (by decide +kernel)
theorem kwm_269 : (.constantLong RX5 104 3600 : Cond) ∈ kw := kw_in (i := 647) (by decide +kernel) (by decide +kernel)
theorem kwm_270 : (.fieldLink RX5 16 "ClockTextsModel" "out" "[I" : Cond) ∈ kw := kw_in (i := 537) (by decide +kernel) (by decide +kernel)
theorem kwm_271 : (.fieldLink RX5 112 "ClockTextsModel" "written" "I" : Cond) ∈ kw := kw_in (i := 538) (by decide +kernel) (by decide +kernel)
theorem dX5_readAll_0 : decode cX5_readAll 0 = .ok (.aload_n 0, 1) := by decide +kernel
theorem dX5_readAll_1 : decode cX5_readAll 1 = .ok (.iconst 0, 1) := by decide +kernel
theorem dX5_readAll_2 : decode cX5_readAll 2 = .ok (.putfield 65, 3) := by decide +kernel
theorem dX5_readAll_5 : decode cX5_readAll 5 = .ok (.aload_n 0, 1) := by decide +kernel
theorem dX5_readAll_6 : decode cX5_readAll 6 = .ok (.iconst 0, 1) := by decide +kernel
theorem dX5_readAll_7 : decode cX5_readAll 7 = .ok (.putfield 68, 3) := by decide +kernel
theorem dX5_readAll_10 : decode cX5_readAll 10 = .ok (.aload_n 0, 1) := by decide +kernel
theorem dX5_readAll_11 : decode cX5_readAll 11 = .ok (.iconst 0, 1) := by decide +kernel
theorem dX5_readAll_12 : decode cX5_readAll 12 = .ok (.putfield 79, 3) := by decide +kernel
theorem dX5_readAll_15 : decode cX5_readAll 15 = .ok (.aload_n 0, 1) := by decide +kernel
theorem dX5_readAll_16 : decode cX5_readAll 16 = .ok (.iload_n 1, 1) := by decide +kernel
theorem dX5_readAll_17 : decode cX5_readAll 17 = .ok (.invokevirtual 88, 3) := by decide +kernel
theorem dX5_readAll_20 : decode cX5_readAll 20 = .ok (.istore_n 2, 1) := by decide +kernel
theorem dX5_readAll_21 : decode cX5_readAll 21 = .ok (.aload_n 0, 1) := by decide +kernel
theorem dX5_readAll_22 : decode cX5_readAll 22 = .ok (.iconst 1, 1) := by decide +kernel
theorem dX5_readAll_23 : decode cX5_readAll 23 = .ok (.bipush 12, 2) := by decide +kernel
theorem dX5_readAll_25 : decode cX5_readAll 25 = .ok (.invokevirtual 82, 3) := by decide +kernel
theorem dX5_readAll_28 : decode cX5_readAll 28 = .ok (.istore_n 3, 1) := by decide +kernel
theorem dX5_readAll_29 : decode cX5_readAll 29 = .ok (.aload_n 0, 1) := by decide +kernel
theorem dX5_readAll_30 : decode cX5_readAll 30 = .ok (.iconst 1, 1) := by decide +kernel
theorem dX5_readAll_31 : decode cX5_readAll 31 = .ok (.iload_n 2, 1) := by decide +kernel
theorem dX5_readAll_32 : decode cX5_readAll 32 = .ok (.iload_n 3, 1) := by decide +kernel
theorem dX5_readAll_33 : decode cX5_readAll 33 = .ok (.invokestatic 48, 3) := by decide +kernel
theorem dX5_readAll_36 : decode cX5_readAll 36 = .ok (.invokevirtual 82, 3) := by decide +kernel
theorem dX5_readAll_39 : decode cX5_readAll 39 = .ok (.istore 4, 2) := by decide +kernel
theorem dX5_readAll_41 : decode cX5_readAll 41 = .ok (.aload_n 0, 1) := by decide +kernel
theorem dX5_readAll_42 : decode cX5_readAll 42 = .ok (.iconst 0, 1) := by decide +kernel
theorem dX5_readAll_43 : decode cX5_readAll 43 = .ok (.bipush 23, 2) := by decide +kernel
theorem dX5_readAll_45 : decode cX5_readAll 45 = .ok (.invokevirtual 82, 3) := by decide +kernel
theorem dX5_readAll_48 : decode cX5_readAll 48 = .ok (.istore 5, 2) := by decide +kernel
theorem dX5_readAll_50 : decode cX5_readAll 50 = .ok (.iload_n 1, 1) := by decide +kernel
theorem dX5_readAll_51 : decode cX5_readAll 51 = .ok (.ifCond .ne 10, 3) := by decide +kernel
theorem dX5_readAll_54 : decode cX5_readAll 54 = .ok (.aload_n 0, 1) := by decide +kernel
theorem dX5_readAll_55 : decode cX5_readAll 55 = .ok (.invokevirtual 91, 3) := by decide +kernel
theorem dX5_readAll_58 : decode cX5_readAll 58 = .ok (.goto 7, 3) := by decide +kernel
theorem dX5_readAll_61 : decode cX5_readAll 61 = .ok (.aload_n 0, 1) := by decide +kernel
theorem dX5_readAll_62 : decode cX5_readAll 62 = .ok (.invokevirtual 94, 3) := by decide +kernel
theorem dX5_readAll_65 : decode cX5_readAll 65 = .ok (.istore 6, 2) := by decide +kernel
theorem dX5_readAll_67 : decode cX5_readAll 67 = .ok (.aload_n 0, 1) := by decide +kernel
theorem dX5_readAll_68 : decode cX5_readAll 68 = .ok (.getfield 68, 3) := by decide +kernel
theorem dX5_readAll_71 : decode cX5_readAll 71 = .ok (.ifCond .eq 5, 3) := by decide +kernel
theorem dX5_readAll_74 : decode cX5_readAll 74 = .ok (.iconst 1, 1) := by decide +kernel
theorem dX5_readAll_75 : decode cX5_readAll 75 = .ok (.ireturn, 1) := by decide +kernel
theorem dX5_readAll_76 : decode cX5_readAll 76 = .ok (.aload_n 0, 1) := by decide +kernel
theorem dX5_readAll_77 : decode cX5_readAll 77 = .ok (.getfield 65, 3) := by decide +kernel
theorem dX5_readAll_80 : decode cX5_readAll 80 = .ok (.aload_n 0, 1) := by decide +kernel
theorem dX5_readAll_81 : decode cX5_readAll 81 = .ok (.getfield 33, 3) := by decide +kernel
theorem dX5_readAll_84 : decode cX5_readAll 84 = .ok (.if_icmp .ne 13, 3) := by decide +kernel
theorem dX5_readAll_87 : decode cX5_readAll 87 = .ok (.iload_n 1, 1) := by decide +kernel
theorem dX5_readAll_88 : decode cX5_readAll 88 = .ok (.ifCond .ne 7, 3) := by decide +kernel
theorem dX5_readAll_91 : decode cX5_readAll 91 = .ok (.iconst 1, 1) := by decide +kernel
theorem dX5_readAll_92 : decode cX5_readAll 92 = .ok (.goto 4, 3) := by decide +kernel
theorem dX5_readAll_95 : decode cX5_readAll 95 = .ok (.iconst 2, 1) := by decide +kernel
theorem dX5_readAll_96 : decode cX5_readAll 96 = .ok (.ireturn, 1) := by decide +kernel
theorem dX5_readAll_97 : decode cX5_readAll 97 = .ok (.aload_n 0, 1) := by decide +kernel
theorem dX5_readAll_98 : decode cX5_readAll 98 = .ok (.iload_n 1, 1) := by decide +kernel
theorem dX5_readAll_99 : decode cX5_readAll 99 = .ok (.invokevirtual 97, 3) := by decide +kernel
theorem dX5_readAll_102 : decode cX5_readAll 102 = .ok (.istore 7, 2) := by decide +kernel
theorem dX5_readAll_104 : decode cX5_readAll 104 = .ok (.aload_n 0, 1) := by decide +kernel
theorem dX5_readAll_105 : decode cX5_readAll 105 = .ok (.getfield 68, 3) := by decide +kernel
theorem dX5_readAll_108 : decode cX5_readAll 108 = .ok (.ifCond .ne 14, 3) := by decide +kernel
theorem dX5_readAll_111 : decode cX5_readAll 111 = .ok (.aload_n 0, 1) := by decide +kernel
theorem dX5_readAll_112 : decode cX5_readAll 112 = .ok (.getfield 65, 3) := by decide +kernel
theorem dX5_readAll_115 : decode cX5_readAll 115 = .ok (.aload_n 0, 1) := by decide +kernel
theorem dX5_readAll_116 : decode cX5_readAll 116 = .ok (.getfield 33, 3) := by decide +kernel
theorem dX5_readAll_119 : decode cX5_readAll 119 = .ok (.if_icmp .eq 5, 3) := by decide +kernel
theorem dX5_readAll_122 : decode cX5_readAll 122 = .ok (.iconst 1, 1) := by decide +kernel
theorem dX5_readAll_123 : decode cX5_readAll 123 = .ok (.ireturn, 1) := by decide +kernel
theorem dX5_readAll_124 : decode cX5_readAll 124 = .ok (.ldc2_w 56, 3) := by decide +kernel
theorem dX5_readAll_127 : decode cX5_readAll 127 = .ok (.iload_n 1, 1) := by decide +kernel
theorem dX5_readAll_128 : decode cX5_readAll 128 = .ok (.ifCond .ne 9, 3) := by decide +kernel
theorem dX5_readAll_131 : decode cX5_readAll 131 = .ok (.sipush 1950, 3) := by decide +kernel
theorem dX5_readAll_134 : decode cX5_readAll 134 = .ok (.goto 4, 3) := by decide +kernel
theorem dX5_readAll_137 : decode cX5_readAll 137 = .ok (.iconst 0, 1) := by decide +kernel
theorem dX5_readAll_138 : decode cX5_readAll 138 = .ok (.iconst 1, 1) := by decide +kernel
theorem dX5_readAll_139 : decode cX5_readAll 139 = .ok (.iconst 1, 1) := by decide +kernel
theorem dX5_readAll_140 : decode cX5_readAll 140 = .ok (.invokestatic 100, 3) := by decide +kernel
theorem dX5_readAll_143 : decode cX5_readAll 143 = .ok (.i2l, 1) := by decide +kernel
theorem dX5_readAll_144 : decode cX5_readAll 144 = .ok (.lmul, 1) := by decide +kernel
theorem dX5_readAll_145 : decode cX5_readAll 145 = .ok (.lstore 8, 2) := by decide +kernel
theorem dX5_readAll_147 : decode cX5_readAll 147 = .ok (.ldc2_w 56, 3) := by decide +kernel
theorem dX5_readAll_150 : decode cX5_readAll 150 = .ok (.iload_n 1, 1) := by decide +kernel
theorem dX5_readAll_151 : decode cX5_readAll 151 = .ok (.ifCond .ne 9, 3) := by decide +kernel
theorem dX5_readAll_154 : decode cX5_readAll 154 = .ok (.sipush 2050, 3) := by decide +kernel
theorem dX5_readAll_157 : decode cX5_readAll 157 = .ok (.goto 6, 3) := by decide +kernel
theorem dX5_readAll_160 : decode cX5_readAll 160 = .ok (.sipush 10000, 3) := by decide +kernel
theorem dX5_readAll_163 : decode cX5_readAll 163 = .ok (.iconst 1, 1) := by decide +kernel
theorem dX5_readAll_164 : decode cX5_readAll 164 = .ok (.iconst 1, 1) := by decide +kernel
theorem dX5_readAll_165 : decode cX5_readAll 165 = .ok (.invokestatic 100, 3) := by decide +kernel
theorem dX5_readAll_168 : decode cX5_readAll 168 = .ok (.i2l, 1) := by decide +kernel
theorem dX5_readAll_169 : decode cX5_readAll 169 = .ok (.lmul, 1) := by decide +kernel
theorem dX5_readAll_170 : decode cX5_readAll 170 = .ok (.lstore 10, 2) := by decide +kernel
theorem dX5_readAll_172 : decode cX5_readAll 172 = .ok (.aload_n 0, 1) := by decide +kernel
theorem dX5_readAll_173 : decode cX5_readAll 173 = .ok (.ldc2_w 56, 3) := by decide +kernel
theorem dX5_readAll_176 : decode cX5_readAll 176 = .ok (.iload_n 2, 1) := by decide +kernel
theorem dX5_readAll_177 : decode cX5_readAll 177 = .ok (.iload_n 3, 1) := by decide +kernel
theorem dX5_readAll_178 : decode cX5_readAll 178 = .ok (.iload 4, 2) := by decide +kernel
theorem dX5_readAll_180 : decode cX5_readAll 180 = .ok (.invokestatic 100, 3) := by decide +kernel
theorem dX5_readAll_183 : decode cX5_readAll 183 = .ok (.i2l, 1) := by decide +kernel
theorem dX5_readAll_184 : decode cX5_readAll 184 = .ok (.lmul, 1) := by decide +kernel
theorem dX5_readAll_185 : decode cX5_readAll 185 = .ok (.ldc2_w 104, 3) := by decide +kernel
theorem dX5_readAll_188 : decode cX5_readAll 188 = .ok (.iload 5, 2) := by decide +kernel
theorem dX5_readAll_190 : decode cX5_readAll 190 = .ok (.i2l, 1) := by decide +kernel
theorem dX5_readAll_191 : decode cX5_readAll 191 = .ok (.lmul, 1) := by decide +kernel
theorem dX5_readAll_192 : decode cX5_readAll 192 = .ok (.ladd, 1) := by decide +kernel
theorem dX5_readAll_193 : decode cX5_readAll 193 = .ok (.iload 6, 2) := by decide +kernel
theorem dX5_readAll_195 : decode cX5_readAll 195 = .ok (.i2l, 1) := by decide +kernel
theorem dX5_readAll_196 : decode cX5_readAll 196 = .ok (.ladd, 1) := by decide +kernel
theorem dX5_readAll_197 : decode cX5_readAll 197 = .ok (.iload 7, 2) := by decide +kernel
theorem dX5_readAll_199 : decode cX5_readAll 199 = .ok (.i2l, 1) := by decide +kernel
theorem dX5_readAll_200 : decode cX5_readAll 200 = .ok (.lsub, 1) := by decide +kernel
theorem dX5_readAll_201 : decode cX5_readAll 201 = .ok (.putfield 52, 3) := by decide +kernel
theorem dX5_readAll_204 : decode cX5_readAll 204 = .ok (.aload_n 0, 1) := by decide +kernel
theorem dX5_readAll_205 : decode cX5_readAll 205 = .ok (.getfield 52, 3) := by decide +kernel
theorem dX5_readAll_208 : decode cX5_readAll 208 = .ok (.lload 8, 2) := by decide +kernel
theorem dX5_readAll_210 : decode cX5_readAll 210 = .ok (.lcmp, 1) := by decide +kernel
theorem dX5_readAll_211 : decode cX5_readAll 211 = .ok (.ifCond .lt 13, 3) := by decide +kernel
theorem dX5_readAll_214 : decode cX5_readAll 214 = .ok (.aload_n 0, 1) := by decide +kernel
theorem dX5_readAll_215 : decode cX5_readAll 215 = .ok (.getfield 52, 3) := by decide +kernel
theorem dX5_readAll_218 : decode cX5_readAll 218 = .ok (.lload 10, 2) := by decide +kernel
theorem dX5_readAll_220 : decode cX5_readAll 220 = .ok (.lcmp, 1) := by decide +kernel
theorem dX5_readAll_221 : decode cX5_readAll 221 = .ok (.ifCond .lt 7, 3) := by decide +kernel
theorem dX5_readAll_224 : decode cX5_readAll 224 = .ok (.iconst 3, 1) := by decide +kernel
theorem dX5_readAll_225 : decode cX5_readAll 225 = .ok (.goto 4, 3) := by decide +kernel
theorem dX5_readAll_228 : decode cX5_readAll 228 = .ok (.iconst 0, 1) := by decide +kernel
theorem dX5_readAll_229 : decode cX5_readAll 229 = .ok (.ireturn, 1) := by decide +kernel
theorem dX5_put_0 : decode cX5_put 0 = .ok (.iconst 1, 1) := by decide +kernel
theorem dX5_put_1 : decode cX5_put 1 = .ok (.istore_n 3, 1) := by decide +kernel
theorem dX5_put_2 : decode cX5_put 2 = .ok (.iconst 1, 1) := by decide +kernel
theorem dX5_put_3 : decode cX5_put 3 = .ok (.istore 4, 2) := by decide +kernel
theorem dX5_put_5 : decode cX5_put 5 = .ok (.iload 4, 2) := by decide +kernel
theorem dX5_put_7 : decode cX5_put 7 = .ok (.iload_n 2, 1) := by decide +kernel
theorem dX5_put_8 : decode cX5_put 8 = .ok (.if_icmp .ge 14, 3) := by decide +kernel
theorem dX5_put_11 : decode cX5_put 11 = .ok (.bipush 10, 2) := by decide +kernel
theorem dX5_put_13 : decode cX5_put 13 = .ok (.iload_n 3, 1) := by decide +kernel
theorem dX5_put_14 : decode cX5_put 14 = .ok (.imul, 1) := by decide +kernel
theorem dX5_put_15 : decode cX5_put 15 = .ok (.istore_n 3, 1) := by decide +kernel
theorem dX5_put_16 : decode cX5_put 16 = .ok (.iinc 4 1, 3) := by decide +kernel
theorem dX5_put_19 : decode cX5_put 19 = .ok (.goto (-14), 3) := by decide +kernel
theorem dX5_put_22 : decode cX5_put 22 = .ok (.iconst 0, 1) := by decide +kernel
theorem dX5_put_23 : decode cX5_put 23 = .ok (.istore 4, 2) := by decide +kernel
theorem dX5_put_25 : decode cX5_put 25 = .ok (.iload 4, 2) := by decide +kernel
theorem dX5_put_27 : decode cX5_put 27 = .ok (.iload_n 2, 1) := by decide +kernel
theorem dX5_put_28 : decode cX5_put 28 = .ok (.if_icmp .ge 42, 3) := by decide +kernel
theorem dX5_put_31 : decode cX5_put 31 = .ok (.aload_n 0, 1) := by decide +kernel
theorem dX5_put_32 : decode cX5_put 32 = .ok (.getfield 16, 3) := by decide +kernel
theorem dX5_put_35 : decode cX5_put 35 = .ok (.aload_n 0, 1) := by decide +kernel
theorem dX5_put_36 : decode cX5_put 36 = .ok (.getfield 112, 3) := by decide +kernel
theorem dX5_put_39 : decode cX5_put 39 = .ok (.bipush 48, 2) := by decide +kernel
theorem dX5_put_41 : decode cX5_put 41 = .ok (.iload_n 1, 1) := by decide +kernel
theorem dX5_put_42 : decode cX5_put 42 = .ok (.iload_n 3, 1) := by decide +kernel
theorem dX5_put_43 : decode cX5_put 43 = .ok (.idiv, 1) := by decide +kernel
theorem dX5_put_44 : decode cX5_put 44 = .ok (.bipush 10, 2) := by decide +kernel
theorem dX5_put_46 : decode cX5_put 46 = .ok (.irem, 1) := by decide +kernel
theorem dX5_put_47 : decode cX5_put 47 = .ok (.iadd, 1) := by decide +kernel
theorem dX5_put_48 : decode cX5_put 48 = .ok (.iastore, 1) := by decide +kernel
theorem dX5_put_49 : decode cX5_put 49 = .ok (.aload_n 0, 1) := by decide +kernel
theorem dX5_put_50 : decode cX5_put 50 = .ok (.dup, 1) := by decide +kernel
theorem dX5_put_51 : decode cX5_put 51 = .ok (.getfield 112, 3) := by decide +kernel
theorem dX5_put_54 : decode cX5_put 54 = .ok (.iconst 1, 1) := by decide +kernel
theorem dX5_put_55 : decode cX5_put 55 = .ok (.iadd, 1) := by decide +kernel
theorem dX5_put_56 : decode cX5_put 56 = .ok (.putfield 112, 3) := by decide +kernel
theorem dX5_put_59 : decode cX5_put 59 = .ok (.iload_n 3, 1) := by decide +kernel
theorem dX5_put_60 : decode cX5_put 60 = .ok (.bipush 10, 2) := by decide +kernel
theorem dX5_put_62 : decode cX5_put 62 = .ok (.idiv, 1) := by decide +kernel
theorem dX5_put_63 : decode cX5_put 63 = .ok (.istore_n 3, 1) := by decide +kernel
theorem dX5_put_64 : decode cX5_put 64 = .ok (.iinc 4 1, 3) := by decide +kernel
theorem dX5_put_67 : decode cX5_put 67 = .ok (.goto (-42), 3) := by decide +kernel
theorem dX5_put_70 : decode cX5_put 70 = .ok (.return_, 1) := by decide +kernel
theorem dX5_unitOf_0 : decode cX5_unitOf 0 = .ok (.aload_n 0, 1) := by decide +kernel
theorem dX5_unitOf_1 : decode cX5_unitOf 1 = .ok (.getfield 52, 3) := by decide +kernel
theorem dX5_unitOf_4 : decode cX5_unitOf 4 = .ok (.ldc2_w 56, 3) := by decide +kernel
theorem dX5_unitOf_7 : decode cX5_unitOf 7 = .ok (.lrem, 1) := by decide +kernel
theorem dX5_unitOf_8 : decode cX5_unitOf 8 = .ok (.l2i, 1) := by decide +kernel
theorem dX5_unitOf_9 : decode cX5_unitOf 9 = .ok (.istore_n 2, 1) := by decide +kernel
theorem dX5_unitOf_10 : decode cX5_unitOf 10 = .ok (.iload_n 1, 1) := by decide +kernel
theorem dX5_unitOf_11 : decode cX5_unitOf 11 = .ok (.tableswitch 101 0 6 #[41, 49, 54, 77, 83, 91, 96], 41) := by decide +kernel
theorem dX5_unitOf_52 : decode cX5_unitOf 52 = .ok (.aload_n 0, 1) := by decide +kernel
theorem dX5_unitOf_53 : decode cX5_unitOf 53 = .ok (.invokevirtual 58, 3) := by decide +kernel
theorem dX5_unitOf_56 : decode cX5_unitOf 56 = .ok (.invokestatic 62, 3) := by decide +kernel
theorem dX5_unitOf_59 : decode cX5_unitOf 59 = .ok (.ireturn, 1) := by decide +kernel
theorem dX5_unitOf_60 : decode cX5_unitOf 60 = .ok (.aload_n 0, 1) := by decide +kernel
theorem dX5_unitOf_61 : decode cX5_unitOf 61 = .ok (.invokevirtual 128, 3) := by decide +kernel
theorem dX5_unitOf_64 : decode cX5_unitOf 64 = .ok (.ireturn, 1) := by decide +kernel
theorem dX5_unitOf_65 : decode cX5_unitOf 65 = .ok (.aload_n 0, 1) := by decide +kernel
theorem dX5_unitOf_66 : decode cX5_unitOf 66 = .ok (.invokevirtual 58, 3) := by decide +kernel
theorem dX5_unitOf_69 : decode cX5_unitOf 69 = .ok (.aload_n 0, 1) := by decide +kernel
theorem dX5_unitOf_70 : decode cX5_unitOf 70 = .ok (.invokevirtual 58, 3) := by decide +kernel
theorem dX5_unitOf_73 : decode cX5_unitOf 73 = .ok (.invokestatic 62, 3) := by decide +kernel
theorem dX5_unitOf_76 : decode cX5_unitOf 76 = .ok (.aload_n 0, 1) := by decide +kernel
theorem dX5_unitOf_77 : decode cX5_unitOf 77 = .ok (.invokevirtual 128, 3) := by decide +kernel
theorem dX5_unitOf_80 : decode cX5_unitOf 80 = .ok (.iconst 1, 1) := by decide +kernel
theorem dX5_unitOf_81 : decode cX5_unitOf 81 = .ok (.invokestatic 100, 3) := by decide +kernel
theorem dX5_unitOf_84 : decode cX5_unitOf 84 = .ok (.isub, 1) := by decide +kernel
theorem dX5_unitOf_85 : decode cX5_unitOf 85 = .ok (.iconst 1, 1) := by decide +kernel
theorem dX5_unitOf_86 : decode cX5_unitOf 86 = .ok (.iadd, 1) := by decide +kernel
theorem dX5_unitOf_87 : decode cX5_unitOf 87 = .ok (.ireturn, 1) := by decide +kernel
theorem dX5_unitOf_88 : decode cX5_unitOf 88 = .ok (.iload_n 2, 1) := by decide +kernel
theorem dX5_unitOf_89 : decode cX5_unitOf 89 = .ok (.sipush 3600, 3) := by decide +kernel
theorem dX5_unitOf_92 : decode cX5_unitOf 92 = .ok (.idiv, 1) := by decide +kernel
theorem dX5_unitOf_93 : decode cX5_unitOf 93 = .ok (.ireturn, 1) := by decide +kernel
theorem dX5_unitOf_94 : decode cX5_unitOf 94 = .ok (.iload_n 2, 1) := by decide +kernel
theorem dX5_unitOf_95 : decode cX5_unitOf 95 = .ok (.bipush 60, 2) := by decide +kernel
theorem dX5_unitOf_97 : decode cX5_unitOf 97 = .ok (.idiv, 1) := by decide +kernel
theorem dX5_unitOf_98 : decode cX5_unitOf 98 = .ok (.bipush 60, 2) := by decide +kernel
theorem dX5_unitOf_100 : decode cX5_unitOf 100 = .ok (.irem, 1) := by decide +kernel
theorem dX5_unitOf_101 : decode cX5_unitOf 101 = .ok (.ireturn, 1) := by decide +kernel
theorem dX5_unitOf_102 : decode cX5_unitOf 102 = .ok (.iload_n 2, 1) := by decide +kernel
theorem dX5_unitOf_103 : decode cX5_unitOf 103 = .ok (.bipush 60, 2) := by decide +kernel
theorem dX5_unitOf_105 : decode cX5_unitOf 105 = .ok (.irem, 1) := by decide +kernel
theorem dX5_unitOf_106 : decode cX5_unitOf 106 = .ok (.ireturn, 1) := by decide +kernel
theorem dX5_unitOf_107 : decode cX5_unitOf 107 = .ok (.aload_n 0, 1) := by decide +kernel
theorem dX5_unitOf_108 : decode cX5_unitOf 108 = .ok (.getfield 79, 3) := by decide +kernel
theorem dX5_unitOf_111 : decode cX5_unitOf 111 = .ok (.ireturn, 1) := by decide +kernel
theorem dX5_unitOf_112 : decode cX5_unitOf 112 = .ok (.aload_n 0, 1) := by decide +kernel
theorem dX5_unitOf_113 : decode cX5_unitOf 113 = .ok (.invokevirtual 58, 3) := by decide +kernel
theorem dX5_unitOf_116 : decode cX5_unitOf 116 = .ok (.iconst 5, 1) := by decide +kernel
theorem dX5_unitOf_117 : decode cX5_unitOf 117 = .ok (.iadd, 1) := by decide +kernel
theorem dX5_unitOf_118 : decode cX5_unitOf 118 = .ok (.bipush 7, 2) := by decide +kernel
theorem dX5_unitOf_120 : decode cX5_unitOf 120 = .ok (.irem, 1) := by decide +kernel
theorem dX5_unitOf_121 : decode cX5_unitOf 121 = .ok (.ireturn, 1) := by decide +kernel
def mAll (X : Nat → Int32) (mz : Nat) (PD : Nat → Int32) (kind : Int32) (al : Int64) : Int32 × Int64 × Nat × Bool × (Nat → Int32) × Nat :=
  let v_17 := mYear X mz 0 false kind
  let v_25 := mTwo X mz v_17.2.1 v_17.2.2 1 12
  let v_36 := mTwo X mz v_25.2.1 v_25.2.2 1 (mDays v_17.1 v_25.1)
  let v_45 := mTwo X mz v_36.2.1 v_36.2.2 0 23
  if kind = 0 then
    let v_55 := mShort X mz v_45.2.1 v_45.2.2
    if (bI v_55.2.2) = 0 then
      if (nI v_55.2.1) = (nI mz) then
        (1, al, v_55.2.1, v_55.2.2, PD, 0)
      else
        let v_99 := mZone X mz v_55.2.1 v_55.2.2 kind
        if (bI v_99.2.2) = 0 then
          if (nI v_99.2.1) = (nI mz) then
            if (lg_cmp ((((86400 * (mDayOf v_17.1 v_25.1 v_36.1).toInt64) + (3600 * v_45.1.toInt64)) + v_55.1.toInt64) - v_99.1.toInt64) (86400 * (mDayOf 1950 1 1).toInt64)) < 0 then
              (3, (((86400 * (mDayOf v_17.1 v_25.1 v_36.1).toInt64) + (3600 * v_45.1.toInt64)) + v_55.1.toInt64) - v_99.1.toInt64, v_99.2.1, v_99.2.2, PD, 0)
            else
              if (lg_cmp ((((86400 * (mDayOf v_17.1 v_25.1 v_36.1).toInt64) + (3600 * v_45.1.toInt64)) + v_55.1.toInt64) - v_99.1.toInt64) (86400 * (mDayOf 2050 1 1).toInt64)) < 0 then
                (0, (((86400 * (mDayOf v_17.1 v_25.1 v_36.1).toInt64) + (3600 * v_45.1.toInt64)) + v_55.1.toInt64) - v_99.1.toInt64, v_99.2.1, v_99.2.2, PD, 0)
              else
                (3, (((86400 * (mDayOf v_17.1 v_25.1 v_36.1).toInt64) + (3600 * v_45.1.toInt64)) + v_55.1.toInt64) - v_99.1.toInt64, v_99.2.1, v_99.2.2, PD, 0)
          else
            (1, al, v_99.2.1, v_99.2.2, PD, 0)
        else
          (1, al, v_99.2.1, v_99.2.2, PD, 0)
    else
      (1, al, v_55.2.1, v_55.2.2, PD, 0)
  else
    let v_62 := mLong X mz v_45.2.1 v_45.2.2 PD 0
    if (bI v_62.2.2.1) = 0 then
      if (nI v_62.2.1) = (nI mz) then
        (2, al, v_62.2.1, v_62.2.2.1, v_62.2.2.2.1, v_62.2.2.2.2)
      else
        let v_99 := mZone X mz v_62.2.1 v_62.2.2.1 kind
        if (bI v_99.2.2) = 0 then
          if (nI v_99.2.1) = (nI mz) then
            if (lg_cmp ((((86400 * (mDayOf v_17.1 v_25.1 v_36.1).toInt64) + (3600 * v_45.1.toInt64)) + v_62.1.toInt64) - v_99.1.toInt64) (86400 * (mDayOf 0 1 1).toInt64)) < 0 then
              (3, (((86400 * (mDayOf v_17.1 v_25.1 v_36.1).toInt64) + (3600 * v_45.1.toInt64)) + v_62.1.toInt64) - v_99.1.toInt64, v_99.2.1, v_99.2.2, v_62.2.2.2.1, v_62.2.2.2.2)
            else
              if (lg_cmp ((((86400 * (mDayOf v_17.1 v_25.1 v_36.1).toInt64) + (3600 * v_45.1.toInt64)) + v_62.1.toInt64) - v_99.1.toInt64) (86400 * (mDayOf 10000 1 1).toInt64)) < 0 then
                (0, (((86400 * (mDayOf v_17.1 v_25.1 v_36.1).toInt64) + (3600 * v_45.1.toInt64)) + v_62.1.toInt64) - v_99.1.toInt64, v_99.2.1, v_99.2.2, v_62.2.2.2.1, v_62.2.2.2.2)
              else
                (3, (((86400 * (mDayOf v_17.1 v_25.1 v_36.1).toInt64) + (3600 * v_45.1.toInt64)) + v_62.1.toInt64) - v_99.1.toInt64, v_99.2.1, v_99.2.2, v_62.2.2.2.1, v_62.2.2.2.2)
          else
            (1, al, v_99.2.1, v_99.2.2, v_62.2.2.2.1, v_62.2.2.2.2)
        else
          (1, al, v_99.2.1, v_99.2.2, v_62.2.2.2.1, v_62.2.2.2.2)
    else
      (1, al, v_62.2.1, v_62.2.2.1, v_62.2.2.2.1, v_62.2.2.2.2)
set_option maxHeartbeats 4000000 in
set_option maxRecDepth 100000 in
theorem m_readAll (l : Launch) (dC : Nat → ClassId) (dI : Nat → Nat → Nat) (st sz : Nat) (q : Nat) (th : Int32) (tx : Nat) (mz : Nat) (fl : Int32) (it : Bool) (al : Int64) (pt : Nat) (dg : Nat) (ot : Nat) (wr : Nat) (kz : Nat) (ka : Nat) (kd : Nat) (kp : Nat) (ma : Nat) (wg : Bool) (c1 : ClassId) (X : Nat → Int32) (c2 : ClassId) (PD : Nat → Int32) (kind : Int32) (hz : mz ≤ 242) : Met l yX5_readAll wsX5_readAll ({ frames := 4, cells := 0, slots := 0, locals := 89 }) (kc_Pc (dC, dI) kcl st sz [.ref q, .int kind] [(q, .inr (5, [.int th, .ref tx, .int (nI mz), .int fl, .int (bI it), .long al, .ref pt, .int (nI dg), .ref ot, .int (nI wr), .int (nI kz), .ref ka, .ref kd, .ref kp, .int (nI ma), .int (bI wg)])), (tx, .inl (c1, 256, .inl X)), (pt, .inl (c2, 256, .inl PD))] [(c1, .int), (c2, .int)]) (kc_Qi (dC, dI) kcl (mAll X mz PD kind al).1 [(q, .inr (5, [.int th, .ref tx, .int (nI mz), .int fl, .int (bI it), .long (mAll X mz PD kind al).2.1, .ref pt, .int (nI (mAll X mz PD kind al).2.2.2.2.2), .ref ot, .int (nI wr), .int (nI kz), .ref ka, .ref kd, .ref kp, .int (nI (mAll X mz PD kind al).2.2.1), .int (bI (mAll X mz PD kind al).2.2.2.1)])), (tx, .inl (c1, 256, .inl X)), (pt, .inl (c2, 256, .inl (mAll X mz PD kind al).2.2.2.2.1))] (va_A [(q, .inr (5, [.int th, .ref tx, .int (nI mz), .int fl, .int (bI it), .long al, .ref pt, .int (nI dg), .ref ot, .int (nI wr), .int (nI kz), .ref ka, .ref kd, .ref kp, .int (nI ma), .int (bI wg)])), (tx, .inl (c1, 256, .inl X)), (pt, .inl (c2, 256, .inl PD))] sz)) 0 0 (va_A [(q, .inr (5, [.int th, .ref tx, .int (nI mz), .int fl, .int (bI it), .long al, .ref pt, .int (nI dg), .ref ot, .int (nI wr), .int (nI kz), .ref ka, .ref kd, .ref kp, .int (nI ma), .int (bI wg)])), (tx, .inl (c1, 256, .inl X)), (pt, .inl (c2, 256, .inl PD))] sz) := by
  refine kc_ofW (Qc := fun A => (kc_Qi (dC, dI) kcl (mAll X mz PD kind al).1 [(q, .inr (5, [.int th, .ref tx, .int (nI mz), .int fl, .int (bI it), .long (mAll X mz PD kind al).2.1, .ref pt, .int (nI (mAll X mz PD kind al).2.2.2.2.2), .ref ot, .int (nI wr), .int (nI kz), .ref ka, .ref kd, .ref kp, .int (nI (mAll X mz PD kind al).2.2.1), .int (bI (mAll X mz PD kind al).2.2.2.1)])), (tx, .inl (c1, 256, .inl X)), (pt, .inl (c2, 256, .inl (mAll X mz PD kind al).2.2.2.2.1))] A)) (cc := cX5_readAll) (maxL := 12) (ret := (some .int)) (by decide) rfl (Nat.le_of_ble_eq_true rfl) ?_
  intro p e s m below meth c A ls Cx hA hG hK hP hD hS hl
  obtain ⟨hx, hb, hr, hml, hown, hts, hlocks, hnm⟩ := id Cx
  have hl : lv_has ls 12 [(0, .ref q), (1, .int kind)] := hl
  refine lv_aload_n hx hb dX5_readAll_0 rfl (lv_at hl 0 rfl) ?_
  refine lv_iconst (v := 0) hx hb dX5_readAll_1 (by decide) ?_
  refine va_put (D := (dC, dI)) (ci := 5) (v := .int 0) (ty := .int) (C := RX5) (T := TX5) (N := 16) hx hb hts kin_5 tyX5 tyX5_ok nmX5 hown hK hP hD hS 0 rfl rfl 14 (by decide) (hts _ (kcm kwm_226)) (fun _ h9 => h9) rfl (by decide +kernel) rfl rfl (Nat.le_of_ble_eq_true rfl) dX5_readAll_2 (fun H locs hP hD hS => ?_)
  have hP : va_P (dC, dI) kcl [(q, .inr (5, [.int th, .ref tx, .int (nI mz), .int fl, .int (bI it), .long al, .ref pt, .int (nI dg), .ref ot, .int (nI wr), .int (nI kz), .ref ka, .ref kd, .ref kp, .int (nI 0), .int (bI wg)])), (tx, .inl (c1, 256, .inl X)), (pt, .inl (c2, 256, .inl PD))] H := hP
  have hD : va_D A [(q, .inr (5, [.int th, .ref tx, .int (nI mz), .int fl, .int (bI it), .long al, .ref pt, .int (nI dg), .ref ot, .int (nI wr), .int (nI kz), .ref ka, .ref kd, .ref kp, .int (nI 0), .int (bI wg)])), (tx, .inl (c1, 256, .inl X)), (pt, .inl (c2, 256, .inl PD))] := hD
  refine lv_aload_n hx hb dX5_readAll_5 rfl (lv_at hl 0 rfl) ?_
  refine lv_iconst (v := 0) hx hb dX5_readAll_6 (by decide) ?_
  refine va_put (D := (dC, dI)) (ci := 5) (v := .int 0) (ty := .boolean) (C := RX5) (T := TX5) (N := 16) hx hb hts kin_5 tyX5 tyX5_ok nmX5 hown hK hP hD hS 0 rfl rfl 15 (by decide) (hts _ (kcm kwm_235)) (fun _ h9 => h9) rfl (by decide +kernel) rfl rfl (Nat.le_of_ble_eq_true rfl) dX5_readAll_7 (fun H locs hP hD hS => ?_)
  have hP : va_P (dC, dI) kcl [(q, .inr (5, [.int th, .ref tx, .int (nI mz), .int fl, .int (bI it), .long al, .ref pt, .int (nI dg), .ref ot, .int (nI wr), .int (nI kz), .ref ka, .ref kd, .ref kp, .int (nI 0), .int (bI false)])), (tx, .inl (c1, 256, .inl X)), (pt, .inl (c2, 256, .inl PD))] H := hP
  have hD : va_D A [(q, .inr (5, [.int th, .ref tx, .int (nI mz), .int fl, .int (bI it), .long al, .ref pt, .int (nI dg), .ref ot, .int (nI wr), .int (nI kz), .ref ka, .ref kd, .ref kp, .int (nI 0), .int (bI false)])), (tx, .inl (c1, 256, .inl X)), (pt, .inl (c2, 256, .inl PD))] := hD
  refine lv_aload_n hx hb dX5_readAll_10 rfl (lv_at hl 0 rfl) ?_
  refine lv_iconst (v := 0) hx hb dX5_readAll_11 (by decide) ?_
  refine va_put (D := (dC, dI)) (ci := 5) (v := .int 0) (ty := .int) (C := RX5) (T := TX5) (N := 16) hx hb hts kin_5 tyX5 tyX5_ok nmX5 hown hK hP hD hS 0 rfl rfl 7 (by decide) (hts _ (kcm kwm_236)) (fun _ h9 => h9) rfl (by decide +kernel) rfl rfl (Nat.le_of_ble_eq_true rfl) dX5_readAll_12 (fun H locs hP hD hS => ?_)
  have hP : va_P (dC, dI) kcl [(q, .inr (5, [.int th, .ref tx, .int (nI mz), .int fl, .int (bI it), .long al, .ref pt, .int (nI 0), .ref ot, .int (nI wr), .int (nI kz), .ref ka, .ref kd, .ref kp, .int (nI 0), .int (bI false)])), (tx, .inl (c1, 256, .inl X)), (pt, .inl (c2, 256, .inl PD))] H := hP
  have hD : va_D A [(q, .inr (5, [.int th, .ref tx, .int (nI mz), .int fl, .int (bI it), .long al, .ref pt, .int (nI 0), .ref ot, .int (nI wr), .int (nI kz), .ref ka, .ref kd, .ref kp, .int (nI 0), .int (bI false)])), (tx, .inl (c1, 256, .inl X)), (pt, .inl (c2, 256, .inl PD))] := hD
  refine lv_aload_n hx hb dX5_readAll_15 rfl (lv_at hl 0 rfl) ?_
  refine lv_iload_n hx hb dX5_readAll_16 rfl (lv_at hl 1 rfl) ?_
  have hPc := hP.sub (ws' := [(q, .inr (5, [.int th, .ref tx, .int (nI mz), .int fl, .int (bI it), .long al, .ref pt, .int (nI 0), .ref ot, .int (nI wr), .int (nI kz), .ref ka, .ref kd, .ref kp, .int (nI 0), .int (bI false)])), (tx, .inl (c1, 256, .inl X))]) [0, 1] rfl
  have hDc := hD.sub (ws' := [(q, .inr (5, [.int th, .ref tx, .int (nI mz), .int fl, .int (bI it), .long al, .ref pt, .int (nI 0), .ref ot, .int (nI wr), .int (nI kz), .ref ka, .ref kd, .ref kp, .int (nI 0), .int (bI false)])), (tx, .inl (c1, 256, .inl X))]) [0, 1] (by decide) rfl
  have hKc := hK.sub (tys' := [(c1, .int)]) [0] rfl
  have hFc := va_free (wc := [(q, .inr (5, [.int th, .ref tx, .int (nI mz), .int fl, .int (bI it), .long al, .ref pt, .int (nI 0), .ref ot, .int (nI wr), .int (nI kz), .ref ka, .ref kd, .ref kp, .int (nI 0), .int (bI false)])), (tx, .inl (c1, 256, .inl X))]) hD hS hA [0, 1] rfl
  refine kc_calli (val := (mYear X mz 0 false kind).1) (wr := [(pt, .inl (c2, 256, .inl PD))]) (w1 := [(q, .inr (5, [.int th, .ref tx, .int (nI mz), .int fl, .int (bI it), .long al, .ref pt, .int (nI 0), .ref ot, .int (nI wr), .int (nI kz), .ref ka, .ref kd, .ref kp, .int (nI (mYear X mz 0 false kind).2.1), .int (bI (mYear X mz 0 false kind).2.2)])), (tx, .inl (c1, 256, .inl X))]) (va_runV (As := [.int kind]) (rest := []) ⟨hx, hb, hml, hown, hts⟩ (m_yearOfText l dC dI st H.size q th tx mz fl it al pt 0 ot wr kz ka kd kp 0 false c1 X kind hz (by omega)) (cwV 1 hts (kwV kwm_247 kwm_248 kwm_249 kwm_203 kwm_246) rfl rfl rfl (by decide +kernel) ⟨Nat.le_of_ble_eq_true rfl, Nat.le_of_ble_eq_true rfl⟩) ⟨kc_blind, va_recv hKc hPc (ci := 5) (q0 := 0) rfl rfl, kc_pre hG hS hFc hKc hPc hDc⟩ rfl rfl hl.1 rfl (lv_room (Nat.le_of_ble_eq_true rfl)) dX5_readAll_17 ⟨Nat.le_of_ble_eq_true rfl, Nat.le_of_ble_eq_true rfl⟩) hP hD hS hFc [0, 1] [2] rfl rfl (by decide) (by decide) (fun H locs hP hD hS => ?_)
  have hP : va_P (dC, dI) kcl [(pt, .inl (c2, 256, .inl PD)), (q, .inr (5, [.int th, .ref tx, .int (nI mz), .int fl, .int (bI it), .long al, .ref pt, .int (nI 0), .ref ot, .int (nI wr), .int (nI kz), .ref ka, .ref kd, .ref kp, .int (nI (mYear X mz 0 false kind).2.1), .int (bI (mYear X mz 0 false kind).2.2)])), (tx, .inl (c1, 256, .inl X))] H := hP
  have hD : va_D A [(pt, .inl (c2, 256, .inl PD)), (q, .inr (5, [.int th, .ref tx, .int (nI mz), .int fl, .int (bI it), .long al, .ref pt, .int (nI 0), .ref ot, .int (nI wr), .int (nI kz), .ref ka, .ref kd, .ref kp, .int (nI (mYear X mz 0 false kind).2.1), .int (bI (mYear X mz 0 false kind).2.2)])), (tx, .inl (c1, 256, .inl X))] := hD
  generalize e_17 : mYear X mz 0 false kind = v_17 at hP hD ⊢
  have hP : va_P (dC, dI) kcl [(pt, .inl (c2, 256, .inl PD)), (q, .inr (5, [.int th, .ref tx, .int (nI mz), .int fl, .int (bI it), .long al, .ref pt, .int (nI 0), .ref ot, .int (nI wr), .int (nI kz), .ref ka, .ref kd, .ref kp, .int (nI v_17.2.1), .int (bI v_17.2.2)])), (tx, .inl (c1, 256, .inl X))] H := hP
  have hD : va_D A [(pt, .inl (c2, 256, .inl PD)), (q, .inr (5, [.int th, .ref tx, .int (nI mz), .int fl, .int (bI it), .long al, .ref pt, .int (nI 0), .ref ot, .int (nI wr), .int (nI kz), .ref ka, .ref kd, .ref kp, .int (nI v_17.2.1), .int (bI v_17.2.2)])), (tx, .inl (c1, 256, .inl X))] := hD
  have hv17 : v_17.2.1 ≤ 4 := by rw [← e_17]; exact Nat.le_trans mYear_at (by omega)
  refine lv_istore_n (lv' := [(2, .int v_17.1), (0, .ref q), (1, .int kind)]) hx hb dX5_readAll_20 rfl hl (by decide) rfl (fun ls hl => ?_)
  refine lv_aload_n hx hb dX5_readAll_21 rfl (lv_at hl 1 rfl) ?_
  refine lv_iconst (v := 1) hx hb dX5_readAll_22 (by decide) ?_
  refine lv_bipush (v := 12) hx hb dX5_readAll_23 (by decide) ?_
  have hPc := hP.sub (ws' := [(q, .inr (5, [.int th, .ref tx, .int (nI mz), .int fl, .int (bI it), .long al, .ref pt, .int (nI 0), .ref ot, .int (nI wr), .int (nI kz), .ref ka, .ref kd, .ref kp, .int (nI v_17.2.1), .int (bI v_17.2.2)])), (tx, .inl (c1, 256, .inl X))]) [1, 2] rfl
  have hDc := hD.sub (ws' := [(q, .inr (5, [.int th, .ref tx, .int (nI mz), .int fl, .int (bI it), .long al, .ref pt, .int (nI 0), .ref ot, .int (nI wr), .int (nI kz), .ref ka, .ref kd, .ref kp, .int (nI v_17.2.1), .int (bI v_17.2.2)])), (tx, .inl (c1, 256, .inl X))]) [1, 2] (by decide) rfl
  have hKc := hK.sub (tys' := [(c1, .int)]) [0] rfl
  have hFc := va_free (wc := [(q, .inr (5, [.int th, .ref tx, .int (nI mz), .int fl, .int (bI it), .long al, .ref pt, .int (nI 0), .ref ot, .int (nI wr), .int (nI kz), .ref ka, .ref kd, .ref kp, .int (nI v_17.2.1), .int (bI v_17.2.2)])), (tx, .inl (c1, 256, .inl X))]) hD hS hA [1, 2] rfl
  refine kc_calli (val := (mTwo X mz v_17.2.1 v_17.2.2 1 12).1) (wr := [(pt, .inl (c2, 256, .inl PD))]) (w1 := [(q, .inr (5, [.int th, .ref tx, .int (nI mz), .int fl, .int (bI it), .long al, .ref pt, .int (nI 0), .ref ot, .int (nI wr), .int (nI kz), .ref ka, .ref kd, .ref kp, .int (nI (mTwo X mz v_17.2.1 v_17.2.2 1 12).2.1), .int (bI (mTwo X mz v_17.2.1 v_17.2.2 1 12).2.2)])), (tx, .inl (c1, 256, .inl X))]) (va_runV (As := [.int 1, .int 12]) (rest := []) ⟨hx, hb, hml, hown, hts⟩ (m_two l dC dI st H.size q th tx mz fl it al pt 0 ot wr kz ka kd kp v_17.2.1 v_17.2.2 c1 X 1 12 hz (by omega)) (cwV 2 hts (kwV kwm_243 kwm_244 kwm_245 kwm_203 kwm_242) rfl rfl rfl (by decide +kernel) ⟨Nat.le_of_ble_eq_true rfl, Nat.le_of_ble_eq_true rfl⟩) ⟨kc_blind, va_recv hKc hPc (ci := 5) (q0 := 0) rfl rfl, kc_pre hG hS hFc hKc hPc hDc⟩ rfl rfl hl.1 rfl (lv_room (Nat.le_of_ble_eq_true rfl)) dX5_readAll_25 ⟨Nat.le_of_ble_eq_true rfl, Nat.le_of_ble_eq_true rfl⟩) hP hD hS hFc [1, 2] [0] rfl rfl (by decide) (by decide) (fun H locs hP hD hS => ?_)
  have hP : va_P (dC, dI) kcl [(pt, .inl (c2, 256, .inl PD)), (q, .inr (5, [.int th, .ref tx, .int (nI mz), .int fl, .int (bI it), .long al, .ref pt, .int (nI 0), .ref ot, .int (nI wr), .int (nI kz), .ref ka, .ref kd, .ref kp, .int (nI (mTwo X mz v_17.2.1 v_17.2.2 1 12).2.1), .int (bI (mTwo X mz v_17.2.1 v_17.2.2 1 12).2.2)])), (tx, .inl (c1, 256, .inl X))] H := hP
  have hD : va_D A [(pt, .inl (c2, 256, .inl PD)), (q, .inr (5, [.int th, .ref tx, .int (nI mz), .int fl, .int (bI it), .long al, .ref pt, .int (nI 0), .ref ot, .int (nI wr), .int (nI kz), .ref ka, .ref kd, .ref kp, .int (nI (mTwo X mz v_17.2.1 v_17.2.2 1 12).2.1), .int (bI (mTwo X mz v_17.2.1 v_17.2.2 1 12).2.2)])), (tx, .inl (c1, 256, .inl X))] := hD
  generalize e_25 : mTwo X mz v_17.2.1 v_17.2.2 1 12 = v_25 at hP hD ⊢
  have hP : va_P (dC, dI) kcl [(pt, .inl (c2, 256, .inl PD)), (q, .inr (5, [.int th, .ref tx, .int (nI mz), .int fl, .int (bI it), .long al, .ref pt, .int (nI 0), .ref ot, .int (nI wr), .int (nI kz), .ref ka, .ref kd, .ref kp, .int (nI v_25.2.1), .int (bI v_25.2.2)])), (tx, .inl (c1, 256, .inl X))] H := hP
  have hD : va_D A [(pt, .inl (c2, 256, .inl PD)), (q, .inr (5, [.int th, .ref tx, .int (nI mz), .int fl, .int (bI it), .long al, .ref pt, .int (nI 0), .ref ot, .int (nI wr), .int (nI kz), .ref ka, .ref kd, .ref kp, .int (nI v_25.2.1), .int (bI v_25.2.2)])), (tx, .inl (c1, 256, .inl X))] := hD
  have hv25 : v_25.2.1 ≤ v_17.2.1 + 2 := by rw [← e_25]; exact mTwo_at
  refine lv_istore_n (lv' := [(3, .int v_25.1), (2, .int v_17.1), (0, .ref q), (1, .int kind)]) hx hb dX5_readAll_28 rfl hl (by decide) rfl (fun ls hl => ?_)
  refine lv_aload_n hx hb dX5_readAll_29 rfl (lv_at hl 2 rfl) ?_
  refine lv_iconst (v := 1) hx hb dX5_readAll_30 (by decide) ?_
  refine lv_iload_n hx hb dX5_readAll_31 rfl (lv_at hl 1 rfl) ?_
  refine lv_iload_n hx hb dX5_readAll_32 rfl (lv_at hl 0 rfl) ?_
  have hPc := hP.sub (ws' := []) [] rfl
  have hDc := hD.sub (ws' := []) [] (by decide) rfl
  have hKc := hK.sub (tys' := []) [] rfl
  have hFc := va_free (wc := []) hD hS hA [] rfl
  refine kc_callSi (val := mDays v_17.1 v_25.1) (va_runS (As := [.int v_17.1, .int v_25.1]) (rest := [.int 1, .ref q]) ⟨hx, hb, hml, hown, hts⟩ (m_daysOf l dC dI st H.size v_17.1 v_25.1 ) (va_cwS 2 hts (kwS kwm_212 kwm_213 kwm_203 kwm_211) rfl rfl rfl (by decide +kernel) ⟨Nat.le_of_ble_eq_true rfl, Nat.le_of_ble_eq_true rfl⟩) ⟨kc_blind, kc_pre hG hS hFc hKc hPc hDc⟩ rfl rfl hl.1 rfl (lv_room (Nat.le_of_ble_eq_true rfl)) dX5_readAll_33 ⟨Nat.le_of_ble_eq_true rfl, Nat.le_of_ble_eq_true rfl⟩) ?_
  have hPc := hP.sub (ws' := [(q, .inr (5, [.int th, .ref tx, .int (nI mz), .int fl, .int (bI it), .long al, .ref pt, .int (nI 0), .ref ot, .int (nI wr), .int (nI kz), .ref ka, .ref kd, .ref kp, .int (nI v_25.2.1), .int (bI v_25.2.2)])), (tx, .inl (c1, 256, .inl X))]) [1, 2] rfl
  have hDc := hD.sub (ws' := [(q, .inr (5, [.int th, .ref tx, .int (nI mz), .int fl, .int (bI it), .long al, .ref pt, .int (nI 0), .ref ot, .int (nI wr), .int (nI kz), .ref ka, .ref kd, .ref kp, .int (nI v_25.2.1), .int (bI v_25.2.2)])), (tx, .inl (c1, 256, .inl X))]) [1, 2] (by decide) rfl
  have hKc := hK.sub (tys' := [(c1, .int)]) [0] rfl
  have hFc := va_free (wc := [(q, .inr (5, [.int th, .ref tx, .int (nI mz), .int fl, .int (bI it), .long al, .ref pt, .int (nI 0), .ref ot, .int (nI wr), .int (nI kz), .ref ka, .ref kd, .ref kp, .int (nI v_25.2.1), .int (bI v_25.2.2)])), (tx, .inl (c1, 256, .inl X))]) hD hS hA [1, 2] rfl
  refine kc_calli (val := (mTwo X mz v_25.2.1 v_25.2.2 1 (mDays v_17.1 v_25.1)).1) (wr := [(pt, .inl (c2, 256, .inl PD))]) (w1 := [(q, .inr (5, [.int th, .ref tx, .int (nI mz), .int fl, .int (bI it), .long al, .ref pt, .int (nI 0), .ref ot, .int (nI wr), .int (nI kz), .ref ka, .ref kd, .ref kp, .int (nI (mTwo X mz v_25.2.1 v_25.2.2 1 (mDays v_17.1 v_25.1)).2.1), .int (bI (mTwo X mz v_25.2.1 v_25.2.2 1 (mDays v_17.1 v_25.1)).2.2)])), (tx, .inl (c1, 256, .inl X))]) (va_runV (As := [.int 1, .int (mDays v_17.1 v_25.1)]) (rest := []) ⟨hx, hb, hml, hown, hts⟩ (m_two l dC dI st H.size q th tx mz fl it al pt 0 ot wr kz ka kd kp v_25.2.1 v_25.2.2 c1 X 1 (mDays v_17.1 v_25.1) hz (by omega)) (cwV 2 hts (kwV kwm_243 kwm_244 kwm_245 kwm_203 kwm_242) rfl rfl rfl (by decide +kernel) ⟨Nat.le_of_ble_eq_true rfl, Nat.le_of_ble_eq_true rfl⟩) ⟨kc_blind, va_recv hKc hPc (ci := 5) (q0 := 0) rfl rfl, kc_pre hG hS hFc hKc hPc hDc⟩ rfl rfl hl.1 rfl (lv_room (Nat.le_of_ble_eq_true rfl)) dX5_readAll_36 ⟨Nat.le_of_ble_eq_true rfl, Nat.le_of_ble_eq_true rfl⟩) hP hD hS hFc [1, 2] [0] rfl rfl (by decide) (by decide) (fun H locs hP hD hS => ?_)
  have hP : va_P (dC, dI) kcl [(pt, .inl (c2, 256, .inl PD)), (q, .inr (5, [.int th, .ref tx, .int (nI mz), .int fl, .int (bI it), .long al, .ref pt, .int (nI 0), .ref ot, .int (nI wr), .int (nI kz), .ref ka, .ref kd, .ref kp, .int (nI (mTwo X mz v_25.2.1 v_25.2.2 1 (mDays v_17.1 v_25.1)).2.1), .int (bI (mTwo X mz v_25.2.1 v_25.2.2 1 (mDays v_17.1 v_25.1)).2.2)])), (tx, .inl (c1, 256, .inl X))] H := hP
  have hD : va_D A [(pt, .inl (c2, 256, .inl PD)), (q, .inr (5, [.int th, .ref tx, .int (nI mz), .int fl, .int (bI it), .long al, .ref pt, .int (nI 0), .ref ot, .int (nI wr), .int (nI kz), .ref ka, .ref kd, .ref kp, .int (nI (mTwo X mz v_25.2.1 v_25.2.2 1 (mDays v_17.1 v_25.1)).2.1), .int (bI (mTwo X mz v_25.2.1 v_25.2.2 1 (mDays v_17.1 v_25.1)).2.2)])), (tx, .inl (c1, 256, .inl X))] := hD
  generalize e_36 : mTwo X mz v_25.2.1 v_25.2.2 1 (mDays v_17.1 v_25.1) = v_36 at hP hD ⊢
  have hP : va_P (dC, dI) kcl [(pt, .inl (c2, 256, .inl PD)), (q, .inr (5, [.int th, .ref tx, .int (nI mz), .int fl, .int (bI it), .long al, .ref pt, .int (nI 0), .ref ot, .int (nI wr), .int (nI kz), .ref ka, .ref kd, .ref kp, .int (nI v_36.2.1), .int (bI v_36.2.2)])), (tx, .inl (c1, 256, .inl X))] H := hP
  have hD : va_D A [(pt, .inl (c2, 256, .inl PD)), (q, .inr (5, [.int th, .ref tx, .int (nI mz), .int fl, .int (bI it), .long al, .ref pt, .int (nI 0), .ref ot, .int (nI wr), .int (nI kz), .ref ka, .ref kd, .ref kp, .int (nI v_36.2.1), .int (bI v_36.2.2)])), (tx, .inl (c1, 256, .inl X))] := hD
  have hv36 : v_36.2.1 ≤ v_25.2.1 + 2 := by rw [← e_36]; exact mTwo_at
  refine lv_istore (lv' := [(4, .int v_36.1), (3, .int v_25.1), (2, .int v_17.1), (0, .ref q), (1, .int kind)]) hx hb dX5_readAll_39 hl (by decide) rfl (fun ls hl => ?_)
  refine lv_aload_n hx hb dX5_readAll_41 rfl (lv_at hl 3 rfl) ?_
  refine lv_iconst (v := 0) hx hb dX5_readAll_42 (by decide) ?_
  refine lv_bipush (v := 23) hx hb dX5_readAll_43 (by decide) ?_
  have hPc := hP.sub (ws' := [(q, .inr (5, [.int th, .ref tx, .int (nI mz), .int fl, .int (bI it), .long al, .ref pt, .int (nI 0), .ref ot, .int (nI wr), .int (nI kz), .ref ka, .ref kd, .ref kp, .int (nI v_36.2.1), .int (bI v_36.2.2)])), (tx, .inl (c1, 256, .inl X))]) [1, 2] rfl
  have hDc := hD.sub (ws' := [(q, .inr (5, [.int th, .ref tx, .int (nI mz), .int fl, .int (bI it), .long al, .ref pt, .int (nI 0), .ref ot, .int (nI wr), .int (nI kz), .ref ka, .ref kd, .ref kp, .int (nI v_36.2.1), .int (bI v_36.2.2)])), (tx, .inl (c1, 256, .inl X))]) [1, 2] (by decide) rfl
  have hKc := hK.sub (tys' := [(c1, .int)]) [0] rfl
  have hFc := va_free (wc := [(q, .inr (5, [.int th, .ref tx, .int (nI mz), .int fl, .int (bI it), .long al, .ref pt, .int (nI 0), .ref ot, .int (nI wr), .int (nI kz), .ref ka, .ref kd, .ref kp, .int (nI v_36.2.1), .int (bI v_36.2.2)])), (tx, .inl (c1, 256, .inl X))]) hD hS hA [1, 2] rfl
  refine kc_calli (val := (mTwo X mz v_36.2.1 v_36.2.2 0 23).1) (wr := [(pt, .inl (c2, 256, .inl PD))]) (w1 := [(q, .inr (5, [.int th, .ref tx, .int (nI mz), .int fl, .int (bI it), .long al, .ref pt, .int (nI 0), .ref ot, .int (nI wr), .int (nI kz), .ref ka, .ref kd, .ref kp, .int (nI (mTwo X mz v_36.2.1 v_36.2.2 0 23).2.1), .int (bI (mTwo X mz v_36.2.1 v_36.2.2 0 23).2.2)])), (tx, .inl (c1, 256, .inl X))]) (va_runV (As := [.int 0, .int 23]) (rest := []) ⟨hx, hb, hml, hown, hts⟩ (m_two l dC dI st H.size q th tx mz fl it al pt 0 ot wr kz ka kd kp v_36.2.1 v_36.2.2 c1 X 0 23 hz (by omega)) (cwV 2 hts (kwV kwm_243 kwm_244 kwm_245 kwm_203 kwm_242) rfl rfl rfl (by decide +kernel) ⟨Nat.le_of_ble_eq_true rfl, Nat.le_of_ble_eq_true rfl⟩) ⟨kc_blind, va_recv hKc hPc (ci := 5) (q0 := 0) rfl rfl, kc_pre hG hS hFc hKc hPc hDc⟩ rfl rfl hl.1 rfl (lv_room (Nat.le_of_ble_eq_true rfl)) dX5_readAll_45 ⟨Nat.le_of_ble_eq_true rfl, Nat.le_of_ble_eq_true rfl⟩) hP hD hS hFc [1, 2] [0] rfl rfl (by decide) (by decide) (fun H locs hP hD hS => ?_)
  have hP : va_P (dC, dI) kcl [(pt, .inl (c2, 256, .inl PD)), (q, .inr (5, [.int th, .ref tx, .int (nI mz), .int fl, .int (bI it), .long al, .ref pt, .int (nI 0), .ref ot, .int (nI wr), .int (nI kz), .ref ka, .ref kd, .ref kp, .int (nI (mTwo X mz v_36.2.1 v_36.2.2 0 23).2.1), .int (bI (mTwo X mz v_36.2.1 v_36.2.2 0 23).2.2)])), (tx, .inl (c1, 256, .inl X))] H := hP
  have hD : va_D A [(pt, .inl (c2, 256, .inl PD)), (q, .inr (5, [.int th, .ref tx, .int (nI mz), .int fl, .int (bI it), .long al, .ref pt, .int (nI 0), .ref ot, .int (nI wr), .int (nI kz), .ref ka, .ref kd, .ref kp, .int (nI (mTwo X mz v_36.2.1 v_36.2.2 0 23).2.1), .int (bI (mTwo X mz v_36.2.1 v_36.2.2 0 23).2.2)])), (tx, .inl (c1, 256, .inl X))] := hD
  generalize e_45 : mTwo X mz v_36.2.1 v_36.2.2 0 23 = v_45 at hP hD ⊢
  have hP : va_P (dC, dI) kcl [(pt, .inl (c2, 256, .inl PD)), (q, .inr (5, [.int th, .ref tx, .int (nI mz), .int fl, .int (bI it), .long al, .ref pt, .int (nI 0), .ref ot, .int (nI wr), .int (nI kz), .ref ka, .ref kd, .ref kp, .int (nI v_45.2.1), .int (bI v_45.2.2)])), (tx, .inl (c1, 256, .inl X))] H := hP
  have hD : va_D A [(pt, .inl (c2, 256, .inl PD)), (q, .inr (5, [.int th, .ref tx, .int (nI mz), .int fl, .int (bI it), .long al, .ref pt, .int (nI 0), .ref ot, .int (nI wr), .int (nI kz), .ref ka, .ref kd, .ref kp, .int (nI v_45.2.1), .int (bI v_45.2.2)])), (tx, .inl (c1, 256, .inl X))] := hD
  have hv45 : v_45.2.1 ≤ v_36.2.1 + 2 := by rw [← e_45]; exact mTwo_at
  refine lv_istore (lv' := [(5, .int v_45.1), (4, .int v_36.1), (3, .int v_25.1), (2, .int v_17.1), (0, .ref q), (1, .int kind)]) hx hb dX5_readAll_48 hl (by decide) rfl (fun ls hl => ?_)
  refine lv_iload_n hx hb dX5_readAll_50 rfl (lv_at hl 5 rfl) ?_
  refine lv_if_ne (tgt := 61) hx hb dX5_readAll_51 (by decide) (fun c_51 => ?_) (fun c_51 => ?_)
  · refine lv_aload_n hx hb dX5_readAll_61 rfl (lv_at hl 4 rfl) ?_
    have hPc := hP.sub (ws' := [(q, .inr (5, [.int th, .ref tx, .int (nI mz), .int fl, .int (bI it), .long al, .ref pt, .int (nI 0), .ref ot, .int (nI wr), .int (nI kz), .ref ka, .ref kd, .ref kp, .int (nI v_45.2.1), .int (bI v_45.2.2)])), (tx, .inl (c1, 256, .inl X)), (pt, .inl (c2, 256, .inl PD))]) [1, 2, 0] rfl
    have hDc := hD.sub (ws' := [(q, .inr (5, [.int th, .ref tx, .int (nI mz), .int fl, .int (bI it), .long al, .ref pt, .int (nI 0), .ref ot, .int (nI wr), .int (nI kz), .ref ka, .ref kd, .ref kp, .int (nI v_45.2.1), .int (bI v_45.2.2)])), (tx, .inl (c1, 256, .inl X)), (pt, .inl (c2, 256, .inl PD))]) [1, 2, 0] (by decide) rfl
    have hKc := hK.sub (tys' := [(c1, .int), (c2, .int)]) [0, 1] rfl
    have hFc := va_free (wc := [(q, .inr (5, [.int th, .ref tx, .int (nI mz), .int fl, .int (bI it), .long al, .ref pt, .int (nI 0), .ref ot, .int (nI wr), .int (nI kz), .ref ka, .ref kd, .ref kp, .int (nI v_45.2.1), .int (bI v_45.2.2)])), (tx, .inl (c1, 256, .inl X)), (pt, .inl (c2, 256, .inl PD))]) hD hS hA [1, 2, 0] rfl
    refine kc_calli (val := (mLong X mz v_45.2.1 v_45.2.2 PD 0).1) (wr := []) (w1 := [(q, .inr (5, [.int th, .ref tx, .int (nI mz), .int fl, .int (bI it), .long al, .ref pt, .int (nI (mLong X mz v_45.2.1 v_45.2.2 PD 0).2.2.2.2), .ref ot, .int (nI wr), .int (nI kz), .ref ka, .ref kd, .ref kp, .int (nI (mLong X mz v_45.2.1 v_45.2.2 PD 0).2.1), .int (bI (mLong X mz v_45.2.1 v_45.2.2 PD 0).2.2.1)])), (tx, .inl (c1, 256, .inl X)), (pt, .inl (c2, 256, .inl (mLong X mz v_45.2.1 v_45.2.2 PD 0).2.2.2.1))]) (va_runV (As := []) (rest := []) ⟨hx, hb, hml, hown, hts⟩ (m_readLong l dC dI st H.size q th tx mz fl it al pt 0 ot wr kz ka kd kp v_45.2.1 v_45.2.2 c1 X c2 PD hz (by omega) rfl) (cwV 0 hts (kwV kwm_251 kwm_252 kwm_253 kwm_203 kwm_250) rfl rfl rfl (by decide +kernel) ⟨Nat.le_of_ble_eq_true rfl, Nat.le_of_ble_eq_true rfl⟩) ⟨kc_blind, va_recv hKc hPc (ci := 5) (q0 := 0) rfl rfl, kc_pre hG hS hFc hKc hPc hDc⟩ rfl rfl hl.1 rfl (lv_room (Nat.le_of_ble_eq_true rfl)) dX5_readAll_62 ⟨Nat.le_of_ble_eq_true rfl, Nat.le_of_ble_eq_true rfl⟩) hP hD hS hFc [1, 2, 0] [] rfl rfl (by decide) (by decide) (fun H locs hP hD hS => ?_)
    have hP : va_P (dC, dI) kcl [(q, .inr (5, [.int th, .ref tx, .int (nI mz), .int fl, .int (bI it), .long al, .ref pt, .int (nI (mLong X mz v_45.2.1 v_45.2.2 PD 0).2.2.2.2), .ref ot, .int (nI wr), .int (nI kz), .ref ka, .ref kd, .ref kp, .int (nI (mLong X mz v_45.2.1 v_45.2.2 PD 0).2.1), .int (bI (mLong X mz v_45.2.1 v_45.2.2 PD 0).2.2.1)])), (tx, .inl (c1, 256, .inl X)), (pt, .inl (c2, 256, .inl (mLong X mz v_45.2.1 v_45.2.2 PD 0).2.2.2.1))] H := hP
    have hD : va_D A [(q, .inr (5, [.int th, .ref tx, .int (nI mz), .int fl, .int (bI it), .long al, .ref pt, .int (nI (mLong X mz v_45.2.1 v_45.2.2 PD 0).2.2.2.2), .ref ot, .int (nI wr), .int (nI kz), .ref ka, .ref kd, .ref kp, .int (nI (mLong X mz v_45.2.1 v_45.2.2 PD 0).2.1), .int (bI (mLong X mz v_45.2.1 v_45.2.2 PD 0).2.2.1)])), (tx, .inl (c1, 256, .inl X)), (pt, .inl (c2, 256, .inl (mLong X mz v_45.2.1 v_45.2.2 PD 0).2.2.2.1))] := hD
    generalize e_62 : mLong X mz v_45.2.1 v_45.2.2 PD 0 = v_62 at hP hD ⊢
    have hP : va_P (dC, dI) kcl [(q, .inr (5, [.int th, .ref tx, .int (nI mz), .int fl, .int (bI it), .long al, .ref pt, .int (nI v_62.2.2.2.2), .ref ot, .int (nI wr), .int (nI kz), .ref ka, .ref kd, .ref kp, .int (nI v_62.2.1), .int (bI v_62.2.2.1)])), (tx, .inl (c1, 256, .inl X)), (pt, .inl (c2, 256, .inl v_62.2.2.2.1))] H := hP
    have hD : va_D A [(q, .inr (5, [.int th, .ref tx, .int (nI mz), .int fl, .int (bI it), .long al, .ref pt, .int (nI v_62.2.2.2.2), .ref ot, .int (nI wr), .int (nI kz), .ref ka, .ref kd, .ref kp, .int (nI v_62.2.1), .int (bI v_62.2.2.1)])), (tx, .inl (c1, 256, .inl X)), (pt, .inl (c2, 256, .inl v_62.2.2.2.1))] := hD
    have hv62 : v_62.2.1 ≤ v_45.2.1 + 5 + mz := by rw [← e_62]; exact mLong_at
    refine lv_istore (lv' := [(6, .int v_62.1), (5, .int v_45.1), (4, .int v_36.1), (3, .int v_25.1), (2, .int v_17.1), (0, .ref q), (1, .int kind)]) hx hb dX5_readAll_65 hl (by decide) rfl (fun ls hl => ?_)
    refine lv_aload_n hx hb dX5_readAll_67 rfl (lv_at hl 5 rfl) ?_
    refine va_get (D := (dC, dI)) (ci := 5) (v := .int (bI v_62.2.2.1)) (C := RX5) (T := TX5) (N := 16) hx hb hts kin_5 hown hK hP 0 rfl rfl 15 (by decide) (hts _ (kcm kwm_235)) (fun _ h9 => h9) rfl dX5_readAll_68 ?_
    refine lv_if_eq (tgt := 76) hx hb dX5_readAll_71 (by decide) (fun c_71 => ?_) (fun c_71 => ?_)
    · refine lv_aload_n hx hb dX5_readAll_76 rfl (lv_at hl 5 rfl) ?_
      refine va_get (D := (dC, dI)) (ci := 5) (v := .int (nI v_62.2.1)) (C := RX5) (T := TX5) (N := 16) hx hb hts kin_5 hown hK hP 0 rfl rfl 14 (by decide) (hts _ (kcm kwm_226)) (fun _ h9 => h9) rfl dX5_readAll_77 ?_
      refine lv_aload_n hx hb dX5_readAll_80 rfl (lv_at hl 5 rfl) ?_
      refine va_get (D := (dC, dI)) (ci := 5) (v := .int (nI mz)) (C := RX5) (T := TX5) (N := 16) hx hb hts kin_5 hown hK hP 0 rfl rfl 2 (by decide) (hts _ (kcm kwm_206)) (fun _ h9 => h9) rfl dX5_readAll_81 ?_
      refine lv_icmp_ne (tgt := 97) hx hb dX5_readAll_84 (by decide) (fun c_84 => ?_) (fun c_84 => ?_)
      · refine lv_aload_n hx hb dX5_readAll_97 rfl (lv_at hl 5 rfl) ?_
        refine lv_iload_n hx hb dX5_readAll_98 rfl (lv_at hl 6 rfl) ?_
        have hPc := hP.sub (ws' := [(q, .inr (5, [.int th, .ref tx, .int (nI mz), .int fl, .int (bI it), .long al, .ref pt, .int (nI v_62.2.2.2.2), .ref ot, .int (nI wr), .int (nI kz), .ref ka, .ref kd, .ref kp, .int (nI v_62.2.1), .int (bI v_62.2.2.1)])), (tx, .inl (c1, 256, .inl X))]) [0, 1] rfl
        have hDc := hD.sub (ws' := [(q, .inr (5, [.int th, .ref tx, .int (nI mz), .int fl, .int (bI it), .long al, .ref pt, .int (nI v_62.2.2.2.2), .ref ot, .int (nI wr), .int (nI kz), .ref ka, .ref kd, .ref kp, .int (nI v_62.2.1), .int (bI v_62.2.2.1)])), (tx, .inl (c1, 256, .inl X))]) [0, 1] (by decide) rfl
        have hKc := hK.sub (tys' := [(c1, .int)]) [0] rfl
        have hFc := va_free (wc := [(q, .inr (5, [.int th, .ref tx, .int (nI mz), .int fl, .int (bI it), .long al, .ref pt, .int (nI v_62.2.2.2.2), .ref ot, .int (nI wr), .int (nI kz), .ref ka, .ref kd, .ref kp, .int (nI v_62.2.1), .int (bI v_62.2.2.1)])), (tx, .inl (c1, 256, .inl X))]) hD hS hA [0, 1] rfl
        refine kc_calli (val := (mZone X mz v_62.2.1 v_62.2.2.1 kind).1) (wr := [(pt, .inl (c2, 256, .inl v_62.2.2.2.1))]) (w1 := [(q, .inr (5, [.int th, .ref tx, .int (nI mz), .int fl, .int (bI it), .long al, .ref pt, .int (nI v_62.2.2.2.2), .ref ot, .int (nI wr), .int (nI kz), .ref ka, .ref kd, .ref kp, .int (nI (mZone X mz v_62.2.1 v_62.2.2.1 kind).2.1), .int (bI (mZone X mz v_62.2.1 v_62.2.2.1 kind).2.2)])), (tx, .inl (c1, 256, .inl X))]) (va_runV (As := [.int kind]) (rest := []) ⟨hx, hb, hml, hown, hts⟩ (m_readZone l dC dI st H.size q th tx mz fl it al pt v_62.2.2.2.2 ot wr kz ka kd kp v_62.2.1 v_62.2.2.1 c1 X kind hz (by omega)) (cwV 1 hts (kwV kwm_255 kwm_256 kwm_257 kwm_203 kwm_254) rfl rfl rfl (by decide +kernel) ⟨Nat.le_of_ble_eq_true rfl, Nat.le_of_ble_eq_true rfl⟩) ⟨kc_blind, va_recv hKc hPc (ci := 5) (q0 := 0) rfl rfl, kc_pre hG hS hFc hKc hPc hDc⟩ rfl rfl hl.1 rfl (lv_room (Nat.le_of_ble_eq_true rfl)) dX5_readAll_99 ⟨Nat.le_of_ble_eq_true rfl, Nat.le_of_ble_eq_true rfl⟩) hP hD hS hFc [0, 1] [2] rfl rfl (by decide) (by decide) (fun H locs hP hD hS => ?_)
        have hP : va_P (dC, dI) kcl [(pt, .inl (c2, 256, .inl v_62.2.2.2.1)), (q, .inr (5, [.int th, .ref tx, .int (nI mz), .int fl, .int (bI it), .long al, .ref pt, .int (nI v_62.2.2.2.2), .ref ot, .int (nI wr), .int (nI kz), .ref ka, .ref kd, .ref kp, .int (nI (mZone X mz v_62.2.1 v_62.2.2.1 kind).2.1), .int (bI (mZone X mz v_62.2.1 v_62.2.2.1 kind).2.2)])), (tx, .inl (c1, 256, .inl X))] H := hP
        have hD : va_D A [(pt, .inl (c2, 256, .inl v_62.2.2.2.1)), (q, .inr (5, [.int th, .ref tx, .int (nI mz), .int fl, .int (bI it), .long al, .ref pt, .int (nI v_62.2.2.2.2), .ref ot, .int (nI wr), .int (nI kz), .ref ka, .ref kd, .ref kp, .int (nI (mZone X mz v_62.2.1 v_62.2.2.1 kind).2.1), .int (bI (mZone X mz v_62.2.1 v_62.2.2.1 kind).2.2)])), (tx, .inl (c1, 256, .inl X))] := hD
        generalize e_99 : mZone X mz v_62.2.1 v_62.2.2.1 kind = v_99 at hP hD ⊢
        have hP : va_P (dC, dI) kcl [(pt, .inl (c2, 256, .inl v_62.2.2.2.1)), (q, .inr (5, [.int th, .ref tx, .int (nI mz), .int fl, .int (bI it), .long al, .ref pt, .int (nI v_62.2.2.2.2), .ref ot, .int (nI wr), .int (nI kz), .ref ka, .ref kd, .ref kp, .int (nI v_99.2.1), .int (bI v_99.2.2)])), (tx, .inl (c1, 256, .inl X))] H := hP
        have hD : va_D A [(pt, .inl (c2, 256, .inl v_62.2.2.2.1)), (q, .inr (5, [.int th, .ref tx, .int (nI mz), .int fl, .int (bI it), .long al, .ref pt, .int (nI v_62.2.2.2.2), .ref ot, .int (nI wr), .int (nI kz), .ref ka, .ref kd, .ref kp, .int (nI v_99.2.1), .int (bI v_99.2.2)])), (tx, .inl (c1, 256, .inl X))] := hD
        refine lv_istore (lv' := [(7, .int v_99.1), (6, .int v_62.1), (5, .int v_45.1), (4, .int v_36.1), (3, .int v_25.1), (2, .int v_17.1), (0, .ref q), (1, .int kind)]) hx hb dX5_readAll_102 hl (by decide) rfl (fun ls hl => ?_)
        refine lv_aload_n hx hb dX5_readAll_104 rfl (lv_at hl 6 rfl) ?_
        refine va_get (D := (dC, dI)) (ci := 5) (v := .int (bI v_99.2.2)) (C := RX5) (T := TX5) (N := 16) hx hb hts kin_5 hown hK hP 1 rfl rfl 15 (by decide) (hts _ (kcm kwm_235)) (fun _ h9 => h9) rfl dX5_readAll_105 ?_
        refine lv_if_ne (tgt := 122) hx hb dX5_readAll_108 (by decide) (fun c_108 => ?_) (fun c_108 => ?_)
        · refine lv_iconst (v := 1) hx hb dX5_readAll_122 (by decide) ?_
          have hF9 : mAll X mz PD kind al = (1, al, v_99.2.1, v_99.2.2, v_62.2.2.2.1, v_62.2.2.2.2) := by
            subst e_99
            subst e_62
            subst e_45
            subst e_36
            subst e_25
            subst e_17
            first | (simp only [mAll, if_neg c_51, if_pos c_71, if_neg c_84, if_neg c_108]; done) | rfl
          have hP9 : va_P (dC, dI) kcl [(q, .inr (5, [.int th, .ref tx, .int (nI mz), .int fl, .int (bI it), .long (mAll X mz PD kind al).2.1, .ref pt, .int (nI (mAll X mz PD kind al).2.2.2.2.2), .ref ot, .int (nI wr), .int (nI kz), .ref ka, .ref kd, .ref kp, .int (nI (mAll X mz PD kind al).2.2.1), .int (bI (mAll X mz PD kind al).2.2.2.1)])), (tx, .inl (c1, 256, .inl X)), (pt, .inl (c2, 256, .inl (mAll X mz PD kind al).2.2.2.2.1))] H := by
            try rw [hF9]
            exact hP.sub [1, 2, 0] rfl
          have hD9 : va_D A [(q, .inr (5, [.int th, .ref tx, .int (nI mz), .int fl, .int (bI it), .long (mAll X mz PD kind al).2.1, .ref pt, .int (nI (mAll X mz PD kind al).2.2.2.2.2), .ref ot, .int (nI wr), .int (nI kz), .ref ka, .ref kd, .ref kp, .int (nI (mAll X mz PD kind al).2.2.1), .int (bI (mAll X mz PD kind al).2.2.2.1)])), (tx, .inl (c1, 256, .inl X)), (pt, .inl (c2, 256, .inl (mAll X mz PD kind al).2.2.2.2.1))] := by
            try rw [hF9]
            exact hD.sub [1, 2, 0] (by decide) rfl
          have hv9 : (1 : Int32) = (mAll X mz PD kind al).1 := by
            try rw [hF9]
            try rfl
          exact kc_iret hx hb hr hlocks hv9 hP9 hD9 hS dX5_readAll_123
        · refine lv_aload_n hx hb dX5_readAll_111 rfl (lv_at hl 6 rfl) ?_
          refine va_get (D := (dC, dI)) (ci := 5) (v := .int (nI v_99.2.1)) (C := RX5) (T := TX5) (N := 16) hx hb hts kin_5 hown hK hP 1 rfl rfl 14 (by decide) (hts _ (kcm kwm_226)) (fun _ h9 => h9) rfl dX5_readAll_112 ?_
          refine lv_aload_n hx hb dX5_readAll_115 rfl (lv_at hl 6 rfl) ?_
          refine va_get (D := (dC, dI)) (ci := 5) (v := .int (nI mz)) (C := RX5) (T := TX5) (N := 16) hx hb hts kin_5 hown hK hP 1 rfl rfl 2 (by decide) (hts _ (kcm kwm_206)) (fun _ h9 => h9) rfl dX5_readAll_116 ?_
          refine lv_icmp_eq (tgt := 124) hx hb dX5_readAll_119 (by decide) (fun c_119 => ?_) (fun c_119 => ?_)
          · refine lv_ldc2 (own := RX5) (v := 86400) hx hb hown (hts _ (kcm kwm_218)) dX5_readAll_124 ?_
            refine lv_iload_n hx hb dX5_readAll_127 rfl (lv_at hl 7 rfl) ?_
            refine lv_if_ne (tgt := 137) hx hb dX5_readAll_128 (by decide) (fun c_128 => ?_) (fun c_128 => ?_)
            · refine lv_iconst (v := 0) hx hb dX5_readAll_137 (by decide) ?_
              refine lv_iconst (v := 1) hx hb dX5_readAll_138 (by decide) ?_
              refine lv_iconst (v := 1) hx hb dX5_readAll_139 (by decide) ?_
              have hPc := hP.sub (ws' := []) [] rfl
              have hDc := hD.sub (ws' := []) [] (by decide) rfl
              have hKc := hK.sub (tys' := []) [] rfl
              have hFc := va_free (wc := []) hD hS hA [] rfl
              refine kc_callSi (val := mDayOf 0 1 1) (va_runS (As := [.int 0, .int 1, .int 1]) (rest := [.long 86400]) ⟨hx, hb, hml, hown, hts⟩ (m_dayOf l dC dI st H.size 0 1 1 (by decide)) (va_cwS 3 hts (kwS kwm_259 kwm_260 kwm_203 kwm_258) rfl rfl rfl (by decide +kernel) ⟨Nat.le_of_ble_eq_true rfl, Nat.le_of_ble_eq_true rfl⟩) ⟨kc_blind, kc_pre hG hS hFc hKc hPc hDc⟩ rfl rfl hl.1 rfl (lv_room (Nat.le_of_ble_eq_true rfl)) dX5_readAll_140 ⟨Nat.le_of_ble_eq_true rfl, Nat.le_of_ble_eq_true rfl⟩) ?_
              refine lv_i2l (v := (mDayOf 0 1 1).toInt64) hx hb dX5_readAll_143 rfl ?_
              refine lv_lmul hx hb dX5_readAll_144 ?_
              refine lv_lstore (lv' := [(8, .long (86400 * (mDayOf 0 1 1).toInt64)), (7, .int v_99.1), (6, .int v_62.1), (5, .int v_45.1), (4, .int v_36.1), (3, .int v_25.1), (2, .int v_17.1), (0, .ref q), (1, .int kind)]) hx hb dX5_readAll_145 hl (by decide) rfl (fun ls hl => ?_)
              refine lv_ldc2 (own := RX5) (v := 86400) hx hb hown (hts _ (kcm kwm_218)) dX5_readAll_147 ?_
              refine lv_iload_n hx hb dX5_readAll_150 rfl (lv_at hl 8 rfl) ?_
              refine lv_if_ne (tgt := 160) hx hb dX5_readAll_151 (by decide) (fun c_151 => ?_) (fun c_151 => ?_)
              · refine lv_sipush (v := 10000) hx hb dX5_readAll_160 (by decide) ?_
                refine lv_iconst (v := 1) hx hb dX5_readAll_163 (by decide) ?_
                refine lv_iconst (v := 1) hx hb dX5_readAll_164 (by decide) ?_
                have hPc := hP.sub (ws' := []) [] rfl
                have hDc := hD.sub (ws' := []) [] (by decide) rfl
                have hKc := hK.sub (tys' := []) [] rfl
                have hFc := va_free (wc := []) hD hS hA [] rfl
                refine kc_callSi (val := mDayOf 10000 1 1) (va_runS (As := [.int 10000, .int 1, .int 1]) (rest := [.long 86400]) ⟨hx, hb, hml, hown, hts⟩ (m_dayOf l dC dI st H.size 10000 1 1 (by decide)) (va_cwS 3 hts (kwS kwm_259 kwm_260 kwm_203 kwm_258) rfl rfl rfl (by decide +kernel) ⟨Nat.le_of_ble_eq_true rfl, Nat.le_of_ble_eq_true rfl⟩) ⟨kc_blind, kc_pre hG hS hFc hKc hPc hDc⟩ rfl rfl hl.1 rfl (lv_room (Nat.le_of_ble_eq_true rfl)) dX5_readAll_165 ⟨Nat.le_of_ble_eq_true rfl, Nat.le_of_ble_eq_true rfl⟩) ?_
                refine lv_i2l (v := (mDayOf 10000 1 1).toInt64) hx hb dX5_readAll_168 rfl ?_
                refine lv_lmul hx hb dX5_readAll_169 ?_
                refine lv_lstore (lv' := [(10, .long (86400 * (mDayOf 10000 1 1).toInt64)), (8, .long (86400 * (mDayOf 0 1 1).toInt64)), (7, .int v_99.1), (6, .int v_62.1), (5, .int v_45.1), (4, .int v_36.1), (3, .int v_25.1), (2, .int v_17.1), (0, .ref q), (1, .int kind)]) hx hb dX5_readAll_170 hl (by decide) rfl (fun ls hl => ?_)
                refine lv_aload_n hx hb dX5_readAll_172 rfl (lv_at hl 8 rfl) ?_
                refine lv_ldc2 (own := RX5) (v := 86400) hx hb hown (hts _ (kcm kwm_218)) dX5_readAll_173 ?_
                refine lv_iload_n hx hb dX5_readAll_176 rfl (lv_at hl 7 rfl) ?_
                refine lv_iload_n hx hb dX5_readAll_177 rfl (lv_at hl 6 rfl) ?_
                refine lv_iload hx hb dX5_readAll_178 (lv_at hl 5 rfl) ?_
                have hPc := hP.sub (ws' := []) [] rfl
                have hDc := hD.sub (ws' := []) [] (by decide) rfl
                have hKc := hK.sub (tys' := []) [] rfl
                have hFc := va_free (wc := []) hD hS hA [] rfl
                refine kc_callSi (val := mDayOf v_17.1 v_25.1 v_36.1) (va_runS (As := [.int v_17.1, .int v_25.1, .int v_36.1]) (rest := [.long 86400, .ref q]) ⟨hx, hb, hml, hown, hts⟩ (m_dayOf l dC dI st H.size v_17.1 v_25.1 v_36.1 (by rw [← e_25]; exact mTwo_hi (by decide))) (va_cwS 3 hts (kwS kwm_259 kwm_260 kwm_203 kwm_258) rfl rfl rfl (by decide +kernel) ⟨Nat.le_of_ble_eq_true rfl, Nat.le_of_ble_eq_true rfl⟩) ⟨kc_blind, kc_pre hG hS hFc hKc hPc hDc⟩ rfl rfl hl.1 rfl (lv_room (Nat.le_of_ble_eq_true rfl)) dX5_readAll_180 ⟨Nat.le_of_ble_eq_true rfl, Nat.le_of_ble_eq_true rfl⟩) ?_
                refine lv_i2l (v := (mDayOf v_17.1 v_25.1 v_36.1).toInt64) hx hb dX5_readAll_183 rfl ?_
                refine lv_lmul hx hb dX5_readAll_184 ?_
                refine lv_ldc2 (own := RX5) (v := 3600) hx hb hown (hts _ (kcm kwm_269)) dX5_readAll_185 ?_
                refine lv_iload hx hb dX5_readAll_188 (lv_at hl 4 rfl) ?_
                refine lv_i2l (v := v_45.1.toInt64) hx hb dX5_readAll_190 rfl ?_
                refine lv_lmul hx hb dX5_readAll_191 ?_
                refine lv_ladd hx hb dX5_readAll_192 ?_
                refine lv_iload hx hb dX5_readAll_193 (lv_at hl 3 rfl) ?_
                refine lv_i2l (v := v_62.1.toInt64) hx hb dX5_readAll_195 rfl ?_
                refine lv_ladd hx hb dX5_readAll_196 ?_
                refine lv_iload hx hb dX5_readAll_197 (lv_at hl 2 rfl) ?_
                refine lv_i2l (v := v_99.1.toInt64) hx hb dX5_readAll_199 rfl ?_
                refine lv_lsub hx hb dX5_readAll_200 ?_
                refine va_put (D := (dC, dI)) (ci := 5) (v := .long ((((86400 * (mDayOf v_17.1 v_25.1 v_36.1).toInt64) + (3600 * v_45.1.toInt64)) + v_62.1.toInt64) - v_99.1.toInt64)) (ty := .long) (C := RX5) (T := TX5) (N := 16) hx hb hts kin_5 tyX5 tyX5_ok nmX5 hown hK hP hD hS 1 rfl rfl 5 (by decide) (hts _ (kcm kwm_217)) (fun _ h9 => h9) rfl (by decide +kernel) rfl rfl (Nat.le_of_ble_eq_true rfl) dX5_readAll_201 (fun H locs hP hD hS => ?_)
                have hP : va_P (dC, dI) kcl [(pt, .inl (c2, 256, .inl v_62.2.2.2.1)), (q, .inr (5, [.int th, .ref tx, .int (nI mz), .int fl, .int (bI it), .long ((((86400 * (mDayOf v_17.1 v_25.1 v_36.1).toInt64) + (3600 * v_45.1.toInt64)) + v_62.1.toInt64) - v_99.1.toInt64), .ref pt, .int (nI v_62.2.2.2.2), .ref ot, .int (nI wr), .int (nI kz), .ref ka, .ref kd, .ref kp, .int (nI v_99.2.1), .int (bI v_99.2.2)])), (tx, .inl (c1, 256, .inl X))] H := hP
                have hD : va_D A [(pt, .inl (c2, 256, .inl v_62.2.2.2.1)), (q, .inr (5, [.int th, .ref tx, .int (nI mz), .int fl, .int (bI it), .long ((((86400 * (mDayOf v_17.1 v_25.1 v_36.1).toInt64) + (3600 * v_45.1.toInt64)) + v_62.1.toInt64) - v_99.1.toInt64), .ref pt, .int (nI v_62.2.2.2.2), .ref ot, .int (nI wr), .int (nI kz), .ref ka, .ref kd, .ref kp, .int (nI v_99.2.1), .int (bI v_99.2.2)])), (tx, .inl (c1, 256, .inl X))] := hD
                refine lv_aload_n hx hb dX5_readAll_204 rfl (lv_at hl 8 rfl) ?_
                refine va_get (D := (dC, dI)) (ci := 5) (v := .long ((((86400 * (mDayOf v_17.1 v_25.1 v_36.1).toInt64) + (3600 * v_45.1.toInt64)) + v_62.1.toInt64) - v_99.1.toInt64)) (C := RX5) (T := TX5) (N := 16) hx hb hts kin_5 hown hK hP 1 rfl rfl 5 (by decide) (hts _ (kcm kwm_217)) (fun _ h9 => h9) rfl dX5_readAll_205 ?_
                refine lv_lload hx hb dX5_readAll_208 (lv_at hl 1 rfl) ?_
                refine W.lcmp hx hb dX5_readAll_210 ?_
                refine lv_if_lt (tgt := 224) hx hb dX5_readAll_211 (by decide) (fun c_211 => ?_) (fun c_211 => ?_)
                · refine lv_iconst (v := 3) hx hb dX5_readAll_224 (by decide) ?_
                  refine lv_goto (tgt := 229) hx hb dX5_readAll_225 (by decide) ?_
                  have hF9 : mAll X mz PD kind al = (3, (((86400 * (mDayOf v_17.1 v_25.1 v_36.1).toInt64) + (3600 * v_45.1.toInt64)) + v_62.1.toInt64) - v_99.1.toInt64, v_99.2.1, v_99.2.2, v_62.2.2.2.1, v_62.2.2.2.2) := by
                    subst e_99
                    subst e_62
                    subst e_45
                    subst e_36
                    subst e_25
                    subst e_17
                    first | (simp only [mAll, if_neg c_51, if_pos c_71, if_neg c_84, if_pos c_108, if_pos c_119, if_pos c_211]; done) | rfl
                  have hP9 : va_P (dC, dI) kcl [(q, .inr (5, [.int th, .ref tx, .int (nI mz), .int fl, .int (bI it), .long (mAll X mz PD kind al).2.1, .ref pt, .int (nI (mAll X mz PD kind al).2.2.2.2.2), .ref ot, .int (nI wr), .int (nI kz), .ref ka, .ref kd, .ref kp, .int (nI (mAll X mz PD kind al).2.2.1), .int (bI (mAll X mz PD kind al).2.2.2.1)])), (tx, .inl (c1, 256, .inl X)), (pt, .inl (c2, 256, .inl (mAll X mz PD kind al).2.2.2.2.1))] H := by
                    try rw [hF9]
                    exact hP.sub [1, 2, 0] rfl
                  have hD9 : va_D A [(q, .inr (5, [.int th, .ref tx, .int (nI mz), .int fl, .int (bI it), .long (mAll X mz PD kind al).2.1, .ref pt, .int (nI (mAll X mz PD kind al).2.2.2.2.2), .ref ot, .int (nI wr), .int (nI kz), .ref ka, .ref kd, .ref kp, .int (nI (mAll X mz PD kind al).2.2.1), .int (bI (mAll X mz PD kind al).2.2.2.1)])), (tx, .inl (c1, 256, .inl X)), (pt, .inl (c2, 256, .inl (mAll X mz PD kind al).2.2.2.2.1))] := by
                    try rw [hF9]
                    exact hD.sub [1, 2, 0] (by decide) rfl
                  have hv9 : (3 : Int32) = (mAll X mz PD kind al).1 := by
                    try rw [hF9]
                    try rfl
                  exact kc_iret hx hb hr hlocks hv9 hP9 hD9 hS dX5_readAll_229
                · refine lv_aload_n hx hb dX5_readAll_214 rfl (lv_at hl 8 rfl) ?_
                  refine va_get (D := (dC, dI)) (ci := 5) (v := .long ((((86400 * (mDayOf v_17.1 v_25.1 v_36.1).toInt64) + (3600 * v_45.1.toInt64)) + v_62.1.toInt64) - v_99.1.toInt64)) (C := RX5) (T := TX5) (N := 16) hx hb hts kin_5 hown hK hP 1 rfl rfl 5 (by decide) (hts _ (kcm kwm_217)) (fun _ h9 => h9) rfl dX5_readAll_215 ?_
                  refine lv_lload hx hb dX5_readAll_218 (lv_at hl 0 rfl) ?_
                  refine W.lcmp hx hb dX5_readAll_220 ?_
                  refine lv_if_lt (tgt := 228) hx hb dX5_readAll_221 (by decide) (fun c_221 => ?_) (fun c_221 => ?_)
                  · refine lv_iconst (v := 0) hx hb dX5_readAll_228 (by decide) ?_
                    have hF9 : mAll X mz PD kind al = (0, (((86400 * (mDayOf v_17.1 v_25.1 v_36.1).toInt64) + (3600 * v_45.1.toInt64)) + v_62.1.toInt64) - v_99.1.toInt64, v_99.2.1, v_99.2.2, v_62.2.2.2.1, v_62.2.2.2.2) := by
                      subst e_99
                      subst e_62
                      subst e_45
                      subst e_36
                      subst e_25
                      subst e_17
                      first | (simp only [mAll, if_neg c_51, if_pos c_71, if_neg c_84, if_pos c_108, if_pos c_119, if_neg c_211, if_pos c_221]; done) | rfl
                    have hP9 : va_P (dC, dI) kcl [(q, .inr (5, [.int th, .ref tx, .int (nI mz), .int fl, .int (bI it), .long (mAll X mz PD kind al).2.1, .ref pt, .int (nI (mAll X mz PD kind al).2.2.2.2.2), .ref ot, .int (nI wr), .int (nI kz), .ref ka, .ref kd, .ref kp, .int (nI (mAll X mz PD kind al).2.2.1), .int (bI (mAll X mz PD kind al).2.2.2.1)])), (tx, .inl (c1, 256, .inl X)), (pt, .inl (c2, 256, .inl (mAll X mz PD kind al).2.2.2.2.1))] H := by
                      try rw [hF9]
                      exact hP.sub [1, 2, 0] rfl
                    have hD9 : va_D A [(q, .inr (5, [.int th, .ref tx, .int (nI mz), .int fl, .int (bI it), .long (mAll X mz PD kind al).2.1, .ref pt, .int (nI (mAll X mz PD kind al).2.2.2.2.2), .ref ot, .int (nI wr), .int (nI kz), .ref ka, .ref kd, .ref kp, .int (nI (mAll X mz PD kind al).2.2.1), .int (bI (mAll X mz PD kind al).2.2.2.1)])), (tx, .inl (c1, 256, .inl X)), (pt, .inl (c2, 256, .inl (mAll X mz PD kind al).2.2.2.2.1))] := by
                      try rw [hF9]
                      exact hD.sub [1, 2, 0] (by decide) rfl
                    have hv9 : (0 : Int32) = (mAll X mz PD kind al).1 := by
                      try rw [hF9]
                      try rfl
                    exact kc_iret hx hb hr hlocks hv9 hP9 hD9 hS dX5_readAll_229
                  · refine lv_iconst (v := 3) hx hb dX5_readAll_224 (by decide) ?_
                    refine lv_goto (tgt := 229) hx hb dX5_readAll_225 (by decide) ?_
                    have hF9 : mAll X mz PD kind al = (3, (((86400 * (mDayOf v_17.1 v_25.1 v_36.1).toInt64) + (3600 * v_45.1.toInt64)) + v_62.1.toInt64) - v_99.1.toInt64, v_99.2.1, v_99.2.2, v_62.2.2.2.1, v_62.2.2.2.2) := by
                      subst e_99
                      subst e_62
                      subst e_45
                      subst e_36
                      subst e_25
                      subst e_17
                      first | (simp only [mAll, if_neg c_51, if_pos c_71, if_neg c_84, if_pos c_108, if_pos c_119, if_neg c_211, if_neg c_221]; done) | rfl
                    have hP9 : va_P (dC, dI) kcl [(q, .inr (5, [.int th, .ref tx, .int (nI mz), .int fl, .int (bI it), .long (mAll X mz PD kind al).2.1, .ref pt, .int (nI (mAll X mz PD kind al).2.2.2.2.2), .ref ot, .int (nI wr), .int (nI kz), .ref ka, .ref kd, .ref kp, .int (nI (mAll X mz PD kind al).2.2.1), .int (bI (mAll X mz PD kind al).2.2.2.1)])), (tx, .inl (c1, 256, .inl X)), (pt, .inl (c2, 256, .inl (mAll X mz PD kind al).2.2.2.2.1))] H := by
                      try rw [hF9]
                      exact hP.sub [1, 2, 0] rfl
                    have hD9 : va_D A [(q, .inr (5, [.int th, .ref tx, .int (nI mz), .int fl, .int (bI it), .long (mAll X mz PD kind al).2.1, .ref pt, .int (nI (mAll X mz PD kind al).2.2.2.2.2), .ref ot, .int (nI wr), .int (nI kz), .ref ka, .ref kd, .ref kp, .int (nI (mAll X mz PD kind al).2.2.1), .int (bI (mAll X mz PD kind al).2.2.2.1)])), (tx, .inl (c1, 256, .inl X)), (pt, .inl (c2, 256, .inl (mAll X mz PD kind al).2.2.2.2.1))] := by
                      try rw [hF9]
                      exact hD.sub [1, 2, 0] (by decide) rfl
                    have hv9 : (3 : Int32) = (mAll X mz PD kind al).1 := by
                      try rw [hF9]
                      try rfl
                    exact kc_iret hx hb hr hlocks hv9 hP9 hD9 hS dX5_readAll_229
              · exact absurd c_151 c_128
            · exact absurd c_128 c_51
          · refine lv_iconst (v := 1) hx hb dX5_readAll_122 (by decide) ?_
            have hF9 : mAll X mz PD kind al = (1, al, v_99.2.1, v_99.2.2, v_62.2.2.2.1, v_62.2.2.2.2) := by
              subst e_99
              subst e_62
              subst e_45
              subst e_36
              subst e_25
              subst e_17
              first | (simp only [mAll, if_neg c_51, if_pos c_71, if_neg c_84, if_pos c_108, if_neg c_119]; done) | rfl
            have hP9 : va_P (dC, dI) kcl [(q, .inr (5, [.int th, .ref tx, .int (nI mz), .int fl, .int (bI it), .long (mAll X mz PD kind al).2.1, .ref pt, .int (nI (mAll X mz PD kind al).2.2.2.2.2), .ref ot, .int (nI wr), .int (nI kz), .ref ka, .ref kd, .ref kp, .int (nI (mAll X mz PD kind al).2.2.1), .int (bI (mAll X mz PD kind al).2.2.2.1)])), (tx, .inl (c1, 256, .inl X)), (pt, .inl (c2, 256, .inl (mAll X mz PD kind al).2.2.2.2.1))] H := by
              try rw [hF9]
              exact hP.sub [1, 2, 0] rfl
            have hD9 : va_D A [(q, .inr (5, [.int th, .ref tx, .int (nI mz), .int fl, .int (bI it), .long (mAll X mz PD kind al).2.1, .ref pt, .int (nI (mAll X mz PD kind al).2.2.2.2.2), .ref ot, .int (nI wr), .int (nI kz), .ref ka, .ref kd, .ref kp, .int (nI (mAll X mz PD kind al).2.2.1), .int (bI (mAll X mz PD kind al).2.2.2.1)])), (tx, .inl (c1, 256, .inl X)), (pt, .inl (c2, 256, .inl (mAll X mz PD kind al).2.2.2.2.1))] := by
              try rw [hF9]
              exact hD.sub [1, 2, 0] (by decide) rfl
            have hv9 : (1 : Int32) = (mAll X mz PD kind al).1 := by
              try rw [hF9]
              try rfl
            exact kc_iret hx hb hr hlocks hv9 hP9 hD9 hS dX5_readAll_123
      · refine lv_iload_n hx hb dX5_readAll_87 rfl (lv_at hl 6 rfl) ?_
        refine lv_if_ne (tgt := 95) hx hb dX5_readAll_88 (by decide) (fun c_88 => ?_) (fun c_88 => ?_)
        · refine lv_iconst (v := 2) hx hb dX5_readAll_95 (by decide) ?_
          have hF9 : mAll X mz PD kind al = (2, al, v_62.2.1, v_62.2.2.1, v_62.2.2.2.1, v_62.2.2.2.2) := by
            subst e_62
            subst e_45
            subst e_36
            subst e_25
            subst e_17
            first | (simp only [mAll, if_neg c_51, if_pos c_71, if_pos c_84]; done) | rfl
          have hP9 : va_P (dC, dI) kcl [(q, .inr (5, [.int th, .ref tx, .int (nI mz), .int fl, .int (bI it), .long (mAll X mz PD kind al).2.1, .ref pt, .int (nI (mAll X mz PD kind al).2.2.2.2.2), .ref ot, .int (nI wr), .int (nI kz), .ref ka, .ref kd, .ref kp, .int (nI (mAll X mz PD kind al).2.2.1), .int (bI (mAll X mz PD kind al).2.2.2.1)])), (tx, .inl (c1, 256, .inl X)), (pt, .inl (c2, 256, .inl (mAll X mz PD kind al).2.2.2.2.1))] H := by
            try rw [hF9]
            exact hP.sub [0, 1, 2] rfl
          have hD9 : va_D A [(q, .inr (5, [.int th, .ref tx, .int (nI mz), .int fl, .int (bI it), .long (mAll X mz PD kind al).2.1, .ref pt, .int (nI (mAll X mz PD kind al).2.2.2.2.2), .ref ot, .int (nI wr), .int (nI kz), .ref ka, .ref kd, .ref kp, .int (nI (mAll X mz PD kind al).2.2.1), .int (bI (mAll X mz PD kind al).2.2.2.1)])), (tx, .inl (c1, 256, .inl X)), (pt, .inl (c2, 256, .inl (mAll X mz PD kind al).2.2.2.2.1))] := by
            try rw [hF9]
            exact hD.sub [0, 1, 2] (by decide) rfl
          have hv9 : (2 : Int32) = (mAll X mz PD kind al).1 := by
            try rw [hF9]
            try rfl
          exact kc_iret hx hb hr hlocks hv9 hP9 hD9 hS dX5_readAll_96
        · exact absurd c_88 c_51
    · refine lv_iconst (v := 1) hx hb dX5_readAll_74 (by decide) ?_
      have hF9 : mAll X mz PD kind al = (1, al, v_62.2.1, v_62.2.2.1, v_62.2.2.2.1, v_62.2.2.2.2) := by
        subst e_62
        subst e_45
        subst e_36
        subst e_25
        subst e_17
        first | (simp only [mAll, if_neg c_51, if_neg c_71]; done) | rfl
      have hP9 : va_P (dC, dI) kcl [(q, .inr (5, [.int th, .ref tx, .int (nI mz), .int fl, .int (bI it), .long (mAll X mz PD kind al).2.1, .ref pt, .int (nI (mAll X mz PD kind al).2.2.2.2.2), .ref ot, .int (nI wr), .int (nI kz), .ref ka, .ref kd, .ref kp, .int (nI (mAll X mz PD kind al).2.2.1), .int (bI (mAll X mz PD kind al).2.2.2.1)])), (tx, .inl (c1, 256, .inl X)), (pt, .inl (c2, 256, .inl (mAll X mz PD kind al).2.2.2.2.1))] H := by
        try rw [hF9]
        exact hP.sub [0, 1, 2] rfl
      have hD9 : va_D A [(q, .inr (5, [.int th, .ref tx, .int (nI mz), .int fl, .int (bI it), .long (mAll X mz PD kind al).2.1, .ref pt, .int (nI (mAll X mz PD kind al).2.2.2.2.2), .ref ot, .int (nI wr), .int (nI kz), .ref ka, .ref kd, .ref kp, .int (nI (mAll X mz PD kind al).2.2.1), .int (bI (mAll X mz PD kind al).2.2.2.1)])), (tx, .inl (c1, 256, .inl X)), (pt, .inl (c2, 256, .inl (mAll X mz PD kind al).2.2.2.2.1))] := by
        try rw [hF9]
        exact hD.sub [0, 1, 2] (by decide) rfl
      have hv9 : (1 : Int32) = (mAll X mz PD kind al).1 := by
        try rw [hF9]
        try rfl
      exact kc_iret hx hb hr hlocks hv9 hP9 hD9 hS dX5_readAll_75
  · refine lv_aload_n hx hb dX5_readAll_54 rfl (lv_at hl 4 rfl) ?_
    have hPc := hP.sub (ws' := [(q, .inr (5, [.int th, .ref tx, .int (nI mz), .int fl, .int (bI it), .long al, .ref pt, .int (nI 0), .ref ot, .int (nI wr), .int (nI kz), .ref ka, .ref kd, .ref kp, .int (nI v_45.2.1), .int (bI v_45.2.2)])), (tx, .inl (c1, 256, .inl X))]) [1, 2] rfl
    have hDc := hD.sub (ws' := [(q, .inr (5, [.int th, .ref tx, .int (nI mz), .int fl, .int (bI it), .long al, .ref pt, .int (nI 0), .ref ot, .int (nI wr), .int (nI kz), .ref ka, .ref kd, .ref kp, .int (nI v_45.2.1), .int (bI v_45.2.2)])), (tx, .inl (c1, 256, .inl X))]) [1, 2] (by decide) rfl
    have hKc := hK.sub (tys' := [(c1, .int)]) [0] rfl
    have hFc := va_free (wc := [(q, .inr (5, [.int th, .ref tx, .int (nI mz), .int fl, .int (bI it), .long al, .ref pt, .int (nI 0), .ref ot, .int (nI wr), .int (nI kz), .ref ka, .ref kd, .ref kp, .int (nI v_45.2.1), .int (bI v_45.2.2)])), (tx, .inl (c1, 256, .inl X))]) hD hS hA [1, 2] rfl
    refine kc_calli (val := (mShort X mz v_45.2.1 v_45.2.2).1) (wr := [(pt, .inl (c2, 256, .inl PD))]) (w1 := [(q, .inr (5, [.int th, .ref tx, .int (nI mz), .int fl, .int (bI it), .long al, .ref pt, .int (nI 0), .ref ot, .int (nI wr), .int (nI kz), .ref ka, .ref kd, .ref kp, .int (nI (mShort X mz v_45.2.1 v_45.2.2).2.1), .int (bI (mShort X mz v_45.2.1 v_45.2.2).2.2)])), (tx, .inl (c1, 256, .inl X))]) (va_runV (As := []) (rest := []) ⟨hx, hb, hml, hown, hts⟩ (m_readShort l dC dI st H.size q th tx mz fl it al pt 0 ot wr kz ka kd kp v_45.2.1 v_45.2.2 c1 X hz (by omega)) (cwV 0 hts (kwV kwm_262 kwm_263 kwm_264 kwm_203 kwm_261) rfl rfl rfl (by decide +kernel) ⟨Nat.le_of_ble_eq_true rfl, Nat.le_of_ble_eq_true rfl⟩) ⟨kc_blind, va_recv hKc hPc (ci := 5) (q0 := 0) rfl rfl, kc_pre hG hS hFc hKc hPc hDc⟩ rfl rfl hl.1 rfl (lv_room (Nat.le_of_ble_eq_true rfl)) dX5_readAll_55 ⟨Nat.le_of_ble_eq_true rfl, Nat.le_of_ble_eq_true rfl⟩) hP hD hS hFc [1, 2] [0] rfl rfl (by decide) (by decide) (fun H locs hP hD hS => ?_)
    have hP : va_P (dC, dI) kcl [(pt, .inl (c2, 256, .inl PD)), (q, .inr (5, [.int th, .ref tx, .int (nI mz), .int fl, .int (bI it), .long al, .ref pt, .int (nI 0), .ref ot, .int (nI wr), .int (nI kz), .ref ka, .ref kd, .ref kp, .int (nI (mShort X mz v_45.2.1 v_45.2.2).2.1), .int (bI (mShort X mz v_45.2.1 v_45.2.2).2.2)])), (tx, .inl (c1, 256, .inl X))] H := hP
    have hD : va_D A [(pt, .inl (c2, 256, .inl PD)), (q, .inr (5, [.int th, .ref tx, .int (nI mz), .int fl, .int (bI it), .long al, .ref pt, .int (nI 0), .ref ot, .int (nI wr), .int (nI kz), .ref ka, .ref kd, .ref kp, .int (nI (mShort X mz v_45.2.1 v_45.2.2).2.1), .int (bI (mShort X mz v_45.2.1 v_45.2.2).2.2)])), (tx, .inl (c1, 256, .inl X))] := hD
    generalize e_55 : mShort X mz v_45.2.1 v_45.2.2 = v_55 at hP hD ⊢
    have hP : va_P (dC, dI) kcl [(pt, .inl (c2, 256, .inl PD)), (q, .inr (5, [.int th, .ref tx, .int (nI mz), .int fl, .int (bI it), .long al, .ref pt, .int (nI 0), .ref ot, .int (nI wr), .int (nI kz), .ref ka, .ref kd, .ref kp, .int (nI v_55.2.1), .int (bI v_55.2.2)])), (tx, .inl (c1, 256, .inl X))] H := hP
    have hD : va_D A [(pt, .inl (c2, 256, .inl PD)), (q, .inr (5, [.int th, .ref tx, .int (nI mz), .int fl, .int (bI it), .long al, .ref pt, .int (nI 0), .ref ot, .int (nI wr), .int (nI kz), .ref ka, .ref kd, .ref kp, .int (nI v_55.2.1), .int (bI v_55.2.2)])), (tx, .inl (c1, 256, .inl X))] := hD
    have hv55 : v_55.2.1 ≤ v_45.2.1 + 4 := by rw [← e_55]; exact mShort_at
    refine lv_goto (tgt := 65) hx hb dX5_readAll_58 (by decide) ?_
    refine lv_istore (lv' := [(6, .int v_55.1), (5, .int v_45.1), (4, .int v_36.1), (3, .int v_25.1), (2, .int v_17.1), (0, .ref q), (1, .int kind)]) hx hb dX5_readAll_65 hl (by decide) rfl (fun ls hl => ?_)
    refine lv_aload_n hx hb dX5_readAll_67 rfl (lv_at hl 5 rfl) ?_
    refine va_get (D := (dC, dI)) (ci := 5) (v := .int (bI v_55.2.2)) (C := RX5) (T := TX5) (N := 16) hx hb hts kin_5 hown hK hP 1 rfl rfl 15 (by decide) (hts _ (kcm kwm_235)) (fun _ h9 => h9) rfl dX5_readAll_68 ?_
    refine lv_if_eq (tgt := 76) hx hb dX5_readAll_71 (by decide) (fun c_71 => ?_) (fun c_71 => ?_)
    · refine lv_aload_n hx hb dX5_readAll_76 rfl (lv_at hl 5 rfl) ?_
      refine va_get (D := (dC, dI)) (ci := 5) (v := .int (nI v_55.2.1)) (C := RX5) (T := TX5) (N := 16) hx hb hts kin_5 hown hK hP 1 rfl rfl 14 (by decide) (hts _ (kcm kwm_226)) (fun _ h9 => h9) rfl dX5_readAll_77 ?_
      refine lv_aload_n hx hb dX5_readAll_80 rfl (lv_at hl 5 rfl) ?_
      refine va_get (D := (dC, dI)) (ci := 5) (v := .int (nI mz)) (C := RX5) (T := TX5) (N := 16) hx hb hts kin_5 hown hK hP 1 rfl rfl 2 (by decide) (hts _ (kcm kwm_206)) (fun _ h9 => h9) rfl dX5_readAll_81 ?_
      refine lv_icmp_ne (tgt := 97) hx hb dX5_readAll_84 (by decide) (fun c_84 => ?_) (fun c_84 => ?_)
      · refine lv_aload_n hx hb dX5_readAll_97 rfl (lv_at hl 5 rfl) ?_
        refine lv_iload_n hx hb dX5_readAll_98 rfl (lv_at hl 6 rfl) ?_
        have hPc := hP.sub (ws' := [(q, .inr (5, [.int th, .ref tx, .int (nI mz), .int fl, .int (bI it), .long al, .ref pt, .int (nI 0), .ref ot, .int (nI wr), .int (nI kz), .ref ka, .ref kd, .ref kp, .int (nI v_55.2.1), .int (bI v_55.2.2)])), (tx, .inl (c1, 256, .inl X))]) [1, 2] rfl
        have hDc := hD.sub (ws' := [(q, .inr (5, [.int th, .ref tx, .int (nI mz), .int fl, .int (bI it), .long al, .ref pt, .int (nI 0), .ref ot, .int (nI wr), .int (nI kz), .ref ka, .ref kd, .ref kp, .int (nI v_55.2.1), .int (bI v_55.2.2)])), (tx, .inl (c1, 256, .inl X))]) [1, 2] (by decide) rfl
        have hKc := hK.sub (tys' := [(c1, .int)]) [0] rfl
        have hFc := va_free (wc := [(q, .inr (5, [.int th, .ref tx, .int (nI mz), .int fl, .int (bI it), .long al, .ref pt, .int (nI 0), .ref ot, .int (nI wr), .int (nI kz), .ref ka, .ref kd, .ref kp, .int (nI v_55.2.1), .int (bI v_55.2.2)])), (tx, .inl (c1, 256, .inl X))]) hD hS hA [1, 2] rfl
        refine kc_calli (val := (mZone X mz v_55.2.1 v_55.2.2 kind).1) (wr := [(pt, .inl (c2, 256, .inl PD))]) (w1 := [(q, .inr (5, [.int th, .ref tx, .int (nI mz), .int fl, .int (bI it), .long al, .ref pt, .int (nI 0), .ref ot, .int (nI wr), .int (nI kz), .ref ka, .ref kd, .ref kp, .int (nI (mZone X mz v_55.2.1 v_55.2.2 kind).2.1), .int (bI (mZone X mz v_55.2.1 v_55.2.2 kind).2.2)])), (tx, .inl (c1, 256, .inl X))]) (va_runV (As := [.int kind]) (rest := []) ⟨hx, hb, hml, hown, hts⟩ (m_readZone l dC dI st H.size q th tx mz fl it al pt 0 ot wr kz ka kd kp v_55.2.1 v_55.2.2 c1 X kind hz (by omega)) (cwV 1 hts (kwV kwm_255 kwm_256 kwm_257 kwm_203 kwm_254) rfl rfl rfl (by decide +kernel) ⟨Nat.le_of_ble_eq_true rfl, Nat.le_of_ble_eq_true rfl⟩) ⟨kc_blind, va_recv hKc hPc (ci := 5) (q0 := 0) rfl rfl, kc_pre hG hS hFc hKc hPc hDc⟩ rfl rfl hl.1 rfl (lv_room (Nat.le_of_ble_eq_true rfl)) dX5_readAll_99 ⟨Nat.le_of_ble_eq_true rfl, Nat.le_of_ble_eq_true rfl⟩) hP hD hS hFc [1, 2] [0] rfl rfl (by decide) (by decide) (fun H locs hP hD hS => ?_)
        have hP : va_P (dC, dI) kcl [(pt, .inl (c2, 256, .inl PD)), (q, .inr (5, [.int th, .ref tx, .int (nI mz), .int fl, .int (bI it), .long al, .ref pt, .int (nI 0), .ref ot, .int (nI wr), .int (nI kz), .ref ka, .ref kd, .ref kp, .int (nI (mZone X mz v_55.2.1 v_55.2.2 kind).2.1), .int (bI (mZone X mz v_55.2.1 v_55.2.2 kind).2.2)])), (tx, .inl (c1, 256, .inl X))] H := hP
        have hD : va_D A [(pt, .inl (c2, 256, .inl PD)), (q, .inr (5, [.int th, .ref tx, .int (nI mz), .int fl, .int (bI it), .long al, .ref pt, .int (nI 0), .ref ot, .int (nI wr), .int (nI kz), .ref ka, .ref kd, .ref kp, .int (nI (mZone X mz v_55.2.1 v_55.2.2 kind).2.1), .int (bI (mZone X mz v_55.2.1 v_55.2.2 kind).2.2)])), (tx, .inl (c1, 256, .inl X))] := hD
        generalize e_99 : mZone X mz v_55.2.1 v_55.2.2 kind = v_99 at hP hD ⊢
        have hP : va_P (dC, dI) kcl [(pt, .inl (c2, 256, .inl PD)), (q, .inr (5, [.int th, .ref tx, .int (nI mz), .int fl, .int (bI it), .long al, .ref pt, .int (nI 0), .ref ot, .int (nI wr), .int (nI kz), .ref ka, .ref kd, .ref kp, .int (nI v_99.2.1), .int (bI v_99.2.2)])), (tx, .inl (c1, 256, .inl X))] H := hP
        have hD : va_D A [(pt, .inl (c2, 256, .inl PD)), (q, .inr (5, [.int th, .ref tx, .int (nI mz), .int fl, .int (bI it), .long al, .ref pt, .int (nI 0), .ref ot, .int (nI wr), .int (nI kz), .ref ka, .ref kd, .ref kp, .int (nI v_99.2.1), .int (bI v_99.2.2)])), (tx, .inl (c1, 256, .inl X))] := hD
        refine lv_istore (lv' := [(7, .int v_99.1), (6, .int v_55.1), (5, .int v_45.1), (4, .int v_36.1), (3, .int v_25.1), (2, .int v_17.1), (0, .ref q), (1, .int kind)]) hx hb dX5_readAll_102 hl (by decide) rfl (fun ls hl => ?_)
        refine lv_aload_n hx hb dX5_readAll_104 rfl (lv_at hl 6 rfl) ?_
        refine va_get (D := (dC, dI)) (ci := 5) (v := .int (bI v_99.2.2)) (C := RX5) (T := TX5) (N := 16) hx hb hts kin_5 hown hK hP 1 rfl rfl 15 (by decide) (hts _ (kcm kwm_235)) (fun _ h9 => h9) rfl dX5_readAll_105 ?_
        refine lv_if_ne (tgt := 122) hx hb dX5_readAll_108 (by decide) (fun c_108 => ?_) (fun c_108 => ?_)
        · refine lv_iconst (v := 1) hx hb dX5_readAll_122 (by decide) ?_
          have hF9 : mAll X mz PD kind al = (1, al, v_99.2.1, v_99.2.2, PD, 0) := by
            subst e_99
            subst e_55
            subst e_45
            subst e_36
            subst e_25
            subst e_17
            first | (simp only [mAll, if_pos c_51, if_pos c_71, if_neg c_84, if_neg c_108]; done) | rfl
          have hP9 : va_P (dC, dI) kcl [(q, .inr (5, [.int th, .ref tx, .int (nI mz), .int fl, .int (bI it), .long (mAll X mz PD kind al).2.1, .ref pt, .int (nI (mAll X mz PD kind al).2.2.2.2.2), .ref ot, .int (nI wr), .int (nI kz), .ref ka, .ref kd, .ref kp, .int (nI (mAll X mz PD kind al).2.2.1), .int (bI (mAll X mz PD kind al).2.2.2.1)])), (tx, .inl (c1, 256, .inl X)), (pt, .inl (c2, 256, .inl (mAll X mz PD kind al).2.2.2.2.1))] H := by
            try rw [hF9]
            exact hP.sub [1, 2, 0] rfl
          have hD9 : va_D A [(q, .inr (5, [.int th, .ref tx, .int (nI mz), .int fl, .int (bI it), .long (mAll X mz PD kind al).2.1, .ref pt, .int (nI (mAll X mz PD kind al).2.2.2.2.2), .ref ot, .int (nI wr), .int (nI kz), .ref ka, .ref kd, .ref kp, .int (nI (mAll X mz PD kind al).2.2.1), .int (bI (mAll X mz PD kind al).2.2.2.1)])), (tx, .inl (c1, 256, .inl X)), (pt, .inl (c2, 256, .inl (mAll X mz PD kind al).2.2.2.2.1))] := by
            try rw [hF9]
            exact hD.sub [1, 2, 0] (by decide) rfl
          have hv9 : (1 : Int32) = (mAll X mz PD kind al).1 := by
            try rw [hF9]
            try rfl
          exact kc_iret hx hb hr hlocks hv9 hP9 hD9 hS dX5_readAll_123
        · refine lv_aload_n hx hb dX5_readAll_111 rfl (lv_at hl 6 rfl) ?_
          refine va_get (D := (dC, dI)) (ci := 5) (v := .int (nI v_99.2.1)) (C := RX5) (T := TX5) (N := 16) hx hb hts kin_5 hown hK hP 1 rfl rfl 14 (by decide) (hts _ (kcm kwm_226)) (fun _ h9 => h9) rfl dX5_readAll_112 ?_
          refine lv_aload_n hx hb dX5_readAll_115 rfl (lv_at hl 6 rfl) ?_
          refine va_get (D := (dC, dI)) (ci := 5) (v := .int (nI mz)) (C := RX5) (T := TX5) (N := 16) hx hb hts kin_5 hown hK hP 1 rfl rfl 2 (by decide) (hts _ (kcm kwm_206)) (fun _ h9 => h9) rfl dX5_readAll_116 ?_
          refine lv_icmp_eq (tgt := 124) hx hb dX5_readAll_119 (by decide) (fun c_119 => ?_) (fun c_119 => ?_)
          · refine lv_ldc2 (own := RX5) (v := 86400) hx hb hown (hts _ (kcm kwm_218)) dX5_readAll_124 ?_
            refine lv_iload_n hx hb dX5_readAll_127 rfl (lv_at hl 7 rfl) ?_
            refine lv_if_ne (tgt := 137) hx hb dX5_readAll_128 (by decide) (fun c_128 => ?_) (fun c_128 => ?_)
            · exact absurd c_51 c_128
            · refine lv_sipush (v := 1950) hx hb dX5_readAll_131 (by decide) ?_
              refine lv_goto (tgt := 138) hx hb dX5_readAll_134 (by decide) ?_
              refine lv_iconst (v := 1) hx hb dX5_readAll_138 (by decide) ?_
              refine lv_iconst (v := 1) hx hb dX5_readAll_139 (by decide) ?_
              have hPc := hP.sub (ws' := []) [] rfl
              have hDc := hD.sub (ws' := []) [] (by decide) rfl
              have hKc := hK.sub (tys' := []) [] rfl
              have hFc := va_free (wc := []) hD hS hA [] rfl
              refine kc_callSi (val := mDayOf 1950 1 1) (va_runS (As := [.int 1950, .int 1, .int 1]) (rest := [.long 86400]) ⟨hx, hb, hml, hown, hts⟩ (m_dayOf l dC dI st H.size 1950 1 1 (by decide)) (va_cwS 3 hts (kwS kwm_259 kwm_260 kwm_203 kwm_258) rfl rfl rfl (by decide +kernel) ⟨Nat.le_of_ble_eq_true rfl, Nat.le_of_ble_eq_true rfl⟩) ⟨kc_blind, kc_pre hG hS hFc hKc hPc hDc⟩ rfl rfl hl.1 rfl (lv_room (Nat.le_of_ble_eq_true rfl)) dX5_readAll_140 ⟨Nat.le_of_ble_eq_true rfl, Nat.le_of_ble_eq_true rfl⟩) ?_
              refine lv_i2l (v := (mDayOf 1950 1 1).toInt64) hx hb dX5_readAll_143 rfl ?_
              refine lv_lmul hx hb dX5_readAll_144 ?_
              refine lv_lstore (lv' := [(8, .long (86400 * (mDayOf 1950 1 1).toInt64)), (7, .int v_99.1), (6, .int v_55.1), (5, .int v_45.1), (4, .int v_36.1), (3, .int v_25.1), (2, .int v_17.1), (0, .ref q), (1, .int kind)]) hx hb dX5_readAll_145 hl (by decide) rfl (fun ls hl => ?_)
              refine lv_ldc2 (own := RX5) (v := 86400) hx hb hown (hts _ (kcm kwm_218)) dX5_readAll_147 ?_
              refine lv_iload_n hx hb dX5_readAll_150 rfl (lv_at hl 8 rfl) ?_
              refine lv_if_ne (tgt := 160) hx hb dX5_readAll_151 (by decide) (fun c_151 => ?_) (fun c_151 => ?_)
              · exact absurd c_128 c_151
              · refine lv_sipush (v := 2050) hx hb dX5_readAll_154 (by decide) ?_
                refine lv_goto (tgt := 163) hx hb dX5_readAll_157 (by decide) ?_
                refine lv_iconst (v := 1) hx hb dX5_readAll_163 (by decide) ?_
                refine lv_iconst (v := 1) hx hb dX5_readAll_164 (by decide) ?_
                have hPc := hP.sub (ws' := []) [] rfl
                have hDc := hD.sub (ws' := []) [] (by decide) rfl
                have hKc := hK.sub (tys' := []) [] rfl
                have hFc := va_free (wc := []) hD hS hA [] rfl
                refine kc_callSi (val := mDayOf 2050 1 1) (va_runS (As := [.int 2050, .int 1, .int 1]) (rest := [.long 86400]) ⟨hx, hb, hml, hown, hts⟩ (m_dayOf l dC dI st H.size 2050 1 1 (by decide)) (va_cwS 3 hts (kwS kwm_259 kwm_260 kwm_203 kwm_258) rfl rfl rfl (by decide +kernel) ⟨Nat.le_of_ble_eq_true rfl, Nat.le_of_ble_eq_true rfl⟩) ⟨kc_blind, kc_pre hG hS hFc hKc hPc hDc⟩ rfl rfl hl.1 rfl (lv_room (Nat.le_of_ble_eq_true rfl)) dX5_readAll_165 ⟨Nat.le_of_ble_eq_true rfl, Nat.le_of_ble_eq_true rfl⟩) ?_
                refine lv_i2l (v := (mDayOf 2050 1 1).toInt64) hx hb dX5_readAll_168 rfl ?_
                refine lv_lmul hx hb dX5_readAll_169 ?_
                refine lv_lstore (lv' := [(10, .long (86400 * (mDayOf 2050 1 1).toInt64)), (8, .long (86400 * (mDayOf 1950 1 1).toInt64)), (7, .int v_99.1), (6, .int v_55.1), (5, .int v_45.1), (4, .int v_36.1), (3, .int v_25.1), (2, .int v_17.1), (0, .ref q), (1, .int kind)]) hx hb dX5_readAll_170 hl (by decide) rfl (fun ls hl => ?_)
                refine lv_aload_n hx hb dX5_readAll_172 rfl (lv_at hl 8 rfl) ?_
                refine lv_ldc2 (own := RX5) (v := 86400) hx hb hown (hts _ (kcm kwm_218)) dX5_readAll_173 ?_
                refine lv_iload_n hx hb dX5_readAll_176 rfl (lv_at hl 7 rfl) ?_
                refine lv_iload_n hx hb dX5_readAll_177 rfl (lv_at hl 6 rfl) ?_
                refine lv_iload hx hb dX5_readAll_178 (lv_at hl 5 rfl) ?_
                have hPc := hP.sub (ws' := []) [] rfl
                have hDc := hD.sub (ws' := []) [] (by decide) rfl
                have hKc := hK.sub (tys' := []) [] rfl
                have hFc := va_free (wc := []) hD hS hA [] rfl
                refine kc_callSi (val := mDayOf v_17.1 v_25.1 v_36.1) (va_runS (As := [.int v_17.1, .int v_25.1, .int v_36.1]) (rest := [.long 86400, .ref q]) ⟨hx, hb, hml, hown, hts⟩ (m_dayOf l dC dI st H.size v_17.1 v_25.1 v_36.1 (by rw [← e_25]; exact mTwo_hi (by decide))) (va_cwS 3 hts (kwS kwm_259 kwm_260 kwm_203 kwm_258) rfl rfl rfl (by decide +kernel) ⟨Nat.le_of_ble_eq_true rfl, Nat.le_of_ble_eq_true rfl⟩) ⟨kc_blind, kc_pre hG hS hFc hKc hPc hDc⟩ rfl rfl hl.1 rfl (lv_room (Nat.le_of_ble_eq_true rfl)) dX5_readAll_180 ⟨Nat.le_of_ble_eq_true rfl, Nat.le_of_ble_eq_true rfl⟩) ?_
                refine lv_i2l (v := (mDayOf v_17.1 v_25.1 v_36.1).toInt64) hx hb dX5_readAll_183 rfl ?_
                refine lv_lmul hx hb dX5_readAll_184 ?_
                refine lv_ldc2 (own := RX5) (v := 3600) hx hb hown (hts _ (kcm kwm_269)) dX5_readAll_185 ?_
                refine lv_iload hx hb dX5_readAll_188 (lv_at hl 4 rfl) ?_
                refine lv_i2l (v := v_45.1.toInt64) hx hb dX5_readAll_190 rfl ?_
                refine lv_lmul hx hb dX5_readAll_191 ?_
                refine lv_ladd hx hb dX5_readAll_192 ?_
                refine lv_iload hx hb dX5_readAll_193 (lv_at hl 3 rfl) ?_
                refine lv_i2l (v := v_55.1.toInt64) hx hb dX5_readAll_195 rfl ?_
                refine lv_ladd hx hb dX5_readAll_196 ?_
                refine lv_iload hx hb dX5_readAll_197 (lv_at hl 2 rfl) ?_
                refine lv_i2l (v := v_99.1.toInt64) hx hb dX5_readAll_199 rfl ?_
                refine lv_lsub hx hb dX5_readAll_200 ?_
                refine va_put (D := (dC, dI)) (ci := 5) (v := .long ((((86400 * (mDayOf v_17.1 v_25.1 v_36.1).toInt64) + (3600 * v_45.1.toInt64)) + v_55.1.toInt64) - v_99.1.toInt64)) (ty := .long) (C := RX5) (T := TX5) (N := 16) hx hb hts kin_5 tyX5 tyX5_ok nmX5 hown hK hP hD hS 1 rfl rfl 5 (by decide) (hts _ (kcm kwm_217)) (fun _ h9 => h9) rfl (by decide +kernel) rfl rfl (Nat.le_of_ble_eq_true rfl) dX5_readAll_201 (fun H locs hP hD hS => ?_)
                have hP : va_P (dC, dI) kcl [(pt, .inl (c2, 256, .inl PD)), (q, .inr (5, [.int th, .ref tx, .int (nI mz), .int fl, .int (bI it), .long ((((86400 * (mDayOf v_17.1 v_25.1 v_36.1).toInt64) + (3600 * v_45.1.toInt64)) + v_55.1.toInt64) - v_99.1.toInt64), .ref pt, .int (nI 0), .ref ot, .int (nI wr), .int (nI kz), .ref ka, .ref kd, .ref kp, .int (nI v_99.2.1), .int (bI v_99.2.2)])), (tx, .inl (c1, 256, .inl X))] H := hP
                have hD : va_D A [(pt, .inl (c2, 256, .inl PD)), (q, .inr (5, [.int th, .ref tx, .int (nI mz), .int fl, .int (bI it), .long ((((86400 * (mDayOf v_17.1 v_25.1 v_36.1).toInt64) + (3600 * v_45.1.toInt64)) + v_55.1.toInt64) - v_99.1.toInt64), .ref pt, .int (nI 0), .ref ot, .int (nI wr), .int (nI kz), .ref ka, .ref kd, .ref kp, .int (nI v_99.2.1), .int (bI v_99.2.2)])), (tx, .inl (c1, 256, .inl X))] := hD
                refine lv_aload_n hx hb dX5_readAll_204 rfl (lv_at hl 8 rfl) ?_
                refine va_get (D := (dC, dI)) (ci := 5) (v := .long ((((86400 * (mDayOf v_17.1 v_25.1 v_36.1).toInt64) + (3600 * v_45.1.toInt64)) + v_55.1.toInt64) - v_99.1.toInt64)) (C := RX5) (T := TX5) (N := 16) hx hb hts kin_5 hown hK hP 1 rfl rfl 5 (by decide) (hts _ (kcm kwm_217)) (fun _ h9 => h9) rfl dX5_readAll_205 ?_
                refine lv_lload hx hb dX5_readAll_208 (lv_at hl 1 rfl) ?_
                refine W.lcmp hx hb dX5_readAll_210 ?_
                refine lv_if_lt (tgt := 224) hx hb dX5_readAll_211 (by decide) (fun c_211 => ?_) (fun c_211 => ?_)
                · refine lv_iconst (v := 3) hx hb dX5_readAll_224 (by decide) ?_
                  refine lv_goto (tgt := 229) hx hb dX5_readAll_225 (by decide) ?_
                  have hF9 : mAll X mz PD kind al = (3, (((86400 * (mDayOf v_17.1 v_25.1 v_36.1).toInt64) + (3600 * v_45.1.toInt64)) + v_55.1.toInt64) - v_99.1.toInt64, v_99.2.1, v_99.2.2, PD, 0) := by
                    subst e_99
                    subst e_55
                    subst e_45
                    subst e_36
                    subst e_25
                    subst e_17
                    first | (simp only [mAll, if_pos c_51, if_pos c_71, if_neg c_84, if_pos c_108, if_pos c_119, if_pos c_211]; done) | rfl
                  have hP9 : va_P (dC, dI) kcl [(q, .inr (5, [.int th, .ref tx, .int (nI mz), .int fl, .int (bI it), .long (mAll X mz PD kind al).2.1, .ref pt, .int (nI (mAll X mz PD kind al).2.2.2.2.2), .ref ot, .int (nI wr), .int (nI kz), .ref ka, .ref kd, .ref kp, .int (nI (mAll X mz PD kind al).2.2.1), .int (bI (mAll X mz PD kind al).2.2.2.1)])), (tx, .inl (c1, 256, .inl X)), (pt, .inl (c2, 256, .inl (mAll X mz PD kind al).2.2.2.2.1))] H := by
                    try rw [hF9]
                    exact hP.sub [1, 2, 0] rfl
                  have hD9 : va_D A [(q, .inr (5, [.int th, .ref tx, .int (nI mz), .int fl, .int (bI it), .long (mAll X mz PD kind al).2.1, .ref pt, .int (nI (mAll X mz PD kind al).2.2.2.2.2), .ref ot, .int (nI wr), .int (nI kz), .ref ka, .ref kd, .ref kp, .int (nI (mAll X mz PD kind al).2.2.1), .int (bI (mAll X mz PD kind al).2.2.2.1)])), (tx, .inl (c1, 256, .inl X)), (pt, .inl (c2, 256, .inl (mAll X mz PD kind al).2.2.2.2.1))] := by
                    try rw [hF9]
                    exact hD.sub [1, 2, 0] (by decide) rfl
                  have hv9 : (3 : Int32) = (mAll X mz PD kind al).1 := by
                    try rw [hF9]
                    try rfl
                  exact kc_iret hx hb hr hlocks hv9 hP9 hD9 hS dX5_readAll_229
                · refine lv_aload_n hx hb dX5_readAll_214 rfl (lv_at hl 8 rfl) ?_
                  refine va_get (D := (dC, dI)) (ci := 5) (v := .long ((((86400 * (mDayOf v_17.1 v_25.1 v_36.1).toInt64) + (3600 * v_45.1.toInt64)) + v_55.1.toInt64) - v_99.1.toInt64)) (C := RX5) (T := TX5) (N := 16) hx hb hts kin_5 hown hK hP 1 rfl rfl 5 (by decide) (hts _ (kcm kwm_217)) (fun _ h9 => h9) rfl dX5_readAll_215 ?_
                  refine lv_lload hx hb dX5_readAll_218 (lv_at hl 0 rfl) ?_
                  refine W.lcmp hx hb dX5_readAll_220 ?_
                  refine lv_if_lt (tgt := 228) hx hb dX5_readAll_221 (by decide) (fun c_221 => ?_) (fun c_221 => ?_)
                  · refine lv_iconst (v := 0) hx hb dX5_readAll_228 (by decide) ?_
                    have hF9 : mAll X mz PD kind al = (0, (((86400 * (mDayOf v_17.1 v_25.1 v_36.1).toInt64) + (3600 * v_45.1.toInt64)) + v_55.1.toInt64) - v_99.1.toInt64, v_99.2.1, v_99.2.2, PD, 0) := by
                      subst e_99
                      subst e_55
                      subst e_45
                      subst e_36
                      subst e_25
                      subst e_17
                      first | (simp only [mAll, if_pos c_51, if_pos c_71, if_neg c_84, if_pos c_108, if_pos c_119, if_neg c_211, if_pos c_221]; done) | rfl
                    have hP9 : va_P (dC, dI) kcl [(q, .inr (5, [.int th, .ref tx, .int (nI mz), .int fl, .int (bI it), .long (mAll X mz PD kind al).2.1, .ref pt, .int (nI (mAll X mz PD kind al).2.2.2.2.2), .ref ot, .int (nI wr), .int (nI kz), .ref ka, .ref kd, .ref kp, .int (nI (mAll X mz PD kind al).2.2.1), .int (bI (mAll X mz PD kind al).2.2.2.1)])), (tx, .inl (c1, 256, .inl X)), (pt, .inl (c2, 256, .inl (mAll X mz PD kind al).2.2.2.2.1))] H := by
                      try rw [hF9]
                      exact hP.sub [1, 2, 0] rfl
                    have hD9 : va_D A [(q, .inr (5, [.int th, .ref tx, .int (nI mz), .int fl, .int (bI it), .long (mAll X mz PD kind al).2.1, .ref pt, .int (nI (mAll X mz PD kind al).2.2.2.2.2), .ref ot, .int (nI wr), .int (nI kz), .ref ka, .ref kd, .ref kp, .int (nI (mAll X mz PD kind al).2.2.1), .int (bI (mAll X mz PD kind al).2.2.2.1)])), (tx, .inl (c1, 256, .inl X)), (pt, .inl (c2, 256, .inl (mAll X mz PD kind al).2.2.2.2.1))] := by
                      try rw [hF9]
                      exact hD.sub [1, 2, 0] (by decide) rfl
                    have hv9 : (0 : Int32) = (mAll X mz PD kind al).1 := by
                      try rw [hF9]
                      try rfl
                    exact kc_iret hx hb hr hlocks hv9 hP9 hD9 hS dX5_readAll_229
                  · refine lv_iconst (v := 3) hx hb dX5_readAll_224 (by decide) ?_
                    refine lv_goto (tgt := 229) hx hb dX5_readAll_225 (by decide) ?_
                    have hF9 : mAll X mz PD kind al = (3, (((86400 * (mDayOf v_17.1 v_25.1 v_36.1).toInt64) + (3600 * v_45.1.toInt64)) + v_55.1.toInt64) - v_99.1.toInt64, v_99.2.1, v_99.2.2, PD, 0) := by
                      subst e_99
                      subst e_55
                      subst e_45
                      subst e_36
                      subst e_25
                      subst e_17
                      first | (simp only [mAll, if_pos c_51, if_pos c_71, if_neg c_84, if_pos c_108, if_pos c_119, if_neg c_211, if_neg c_221]; done) | rfl
                    have hP9 : va_P (dC, dI) kcl [(q, .inr (5, [.int th, .ref tx, .int (nI mz), .int fl, .int (bI it), .long (mAll X mz PD kind al).2.1, .ref pt, .int (nI (mAll X mz PD kind al).2.2.2.2.2), .ref ot, .int (nI wr), .int (nI kz), .ref ka, .ref kd, .ref kp, .int (nI (mAll X mz PD kind al).2.2.1), .int (bI (mAll X mz PD kind al).2.2.2.1)])), (tx, .inl (c1, 256, .inl X)), (pt, .inl (c2, 256, .inl (mAll X mz PD kind al).2.2.2.2.1))] H := by
                      try rw [hF9]
                      exact hP.sub [1, 2, 0] rfl
                    have hD9 : va_D A [(q, .inr (5, [.int th, .ref tx, .int (nI mz), .int fl, .int (bI it), .long (mAll X mz PD kind al).2.1, .ref pt, .int (nI (mAll X mz PD kind al).2.2.2.2.2), .ref ot, .int (nI wr), .int (nI kz), .ref ka, .ref kd, .ref kp, .int (nI (mAll X mz PD kind al).2.2.1), .int (bI (mAll X mz PD kind al).2.2.2.1)])), (tx, .inl (c1, 256, .inl X)), (pt, .inl (c2, 256, .inl (mAll X mz PD kind al).2.2.2.2.1))] := by
                      try rw [hF9]
                      exact hD.sub [1, 2, 0] (by decide) rfl
                    have hv9 : (3 : Int32) = (mAll X mz PD kind al).1 := by
                      try rw [hF9]
                      try rfl
                    exact kc_iret hx hb hr hlocks hv9 hP9 hD9 hS dX5_readAll_229
          · refine lv_iconst (v := 1) hx hb dX5_readAll_122 (by decide) ?_
            have hF9 : mAll X mz PD kind al = (1, al, v_99.2.1, v_99.2.2, PD, 0) := by
              subst e_99
              subst e_55
              subst e_45
              subst e_36
              subst e_25
              subst e_17
              first | (simp only [mAll, if_pos c_51, if_pos c_71, if_neg c_84, if_pos c_108, if_neg c_119]; done) | rfl
            have hP9 : va_P (dC, dI) kcl [(q, .inr (5, [.int th, .ref tx, .int (nI mz), .int fl, .int (bI it), .long (mAll X mz PD kind al).2.1, .ref pt, .int (nI (mAll X mz PD kind al).2.2.2.2.2), .ref ot, .int (nI wr), .int (nI kz), .ref ka, .ref kd, .ref kp, .int (nI (mAll X mz PD kind al).2.2.1), .int (bI (mAll X mz PD kind al).2.2.2.1)])), (tx, .inl (c1, 256, .inl X)), (pt, .inl (c2, 256, .inl (mAll X mz PD kind al).2.2.2.2.1))] H := by
              try rw [hF9]
              exact hP.sub [1, 2, 0] rfl
            have hD9 : va_D A [(q, .inr (5, [.int th, .ref tx, .int (nI mz), .int fl, .int (bI it), .long (mAll X mz PD kind al).2.1, .ref pt, .int (nI (mAll X mz PD kind al).2.2.2.2.2), .ref ot, .int (nI wr), .int (nI kz), .ref ka, .ref kd, .ref kp, .int (nI (mAll X mz PD kind al).2.2.1), .int (bI (mAll X mz PD kind al).2.2.2.1)])), (tx, .inl (c1, 256, .inl X)), (pt, .inl (c2, 256, .inl (mAll X mz PD kind al).2.2.2.2.1))] := by
              try rw [hF9]
              exact hD.sub [1, 2, 0] (by decide) rfl
            have hv9 : (1 : Int32) = (mAll X mz PD kind al).1 := by
              try rw [hF9]
              try rfl
            exact kc_iret hx hb hr hlocks hv9 hP9 hD9 hS dX5_readAll_123
      · refine lv_iload_n hx hb dX5_readAll_87 rfl (lv_at hl 6 rfl) ?_
        refine lv_if_ne (tgt := 95) hx hb dX5_readAll_88 (by decide) (fun c_88 => ?_) (fun c_88 => ?_)
        · exact absurd c_51 c_88
        · refine lv_iconst (v := 1) hx hb dX5_readAll_91 (by decide) ?_
          refine lv_goto (tgt := 96) hx hb dX5_readAll_92 (by decide) ?_
          have hF9 : mAll X mz PD kind al = (1, al, v_55.2.1, v_55.2.2, PD, 0) := by
            subst e_55
            subst e_45
            subst e_36
            subst e_25
            subst e_17
            first | (simp only [mAll, if_pos c_51, if_pos c_71, if_pos c_84]; done) | rfl
          have hP9 : va_P (dC, dI) kcl [(q, .inr (5, [.int th, .ref tx, .int (nI mz), .int fl, .int (bI it), .long (mAll X mz PD kind al).2.1, .ref pt, .int (nI (mAll X mz PD kind al).2.2.2.2.2), .ref ot, .int (nI wr), .int (nI kz), .ref ka, .ref kd, .ref kp, .int (nI (mAll X mz PD kind al).2.2.1), .int (bI (mAll X mz PD kind al).2.2.2.1)])), (tx, .inl (c1, 256, .inl X)), (pt, .inl (c2, 256, .inl (mAll X mz PD kind al).2.2.2.2.1))] H := by
            try rw [hF9]
            exact hP.sub [1, 2, 0] rfl
          have hD9 : va_D A [(q, .inr (5, [.int th, .ref tx, .int (nI mz), .int fl, .int (bI it), .long (mAll X mz PD kind al).2.1, .ref pt, .int (nI (mAll X mz PD kind al).2.2.2.2.2), .ref ot, .int (nI wr), .int (nI kz), .ref ka, .ref kd, .ref kp, .int (nI (mAll X mz PD kind al).2.2.1), .int (bI (mAll X mz PD kind al).2.2.2.1)])), (tx, .inl (c1, 256, .inl X)), (pt, .inl (c2, 256, .inl (mAll X mz PD kind al).2.2.2.2.1))] := by
            try rw [hF9]
            exact hD.sub [1, 2, 0] (by decide) rfl
          have hv9 : (1 : Int32) = (mAll X mz PD kind al).1 := by
            try rw [hF9]
            try rfl
          exact kc_iret hx hb hr hlocks hv9 hP9 hD9 hS dX5_readAll_96
    · refine lv_iconst (v := 1) hx hb dX5_readAll_74 (by decide) ?_
      have hF9 : mAll X mz PD kind al = (1, al, v_55.2.1, v_55.2.2, PD, 0) := by
        subst e_55
        subst e_45
        subst e_36
        subst e_25
        subst e_17
        first | (simp only [mAll, if_pos c_51, if_neg c_71]; done) | rfl
      have hP9 : va_P (dC, dI) kcl [(q, .inr (5, [.int th, .ref tx, .int (nI mz), .int fl, .int (bI it), .long (mAll X mz PD kind al).2.1, .ref pt, .int (nI (mAll X mz PD kind al).2.2.2.2.2), .ref ot, .int (nI wr), .int (nI kz), .ref ka, .ref kd, .ref kp, .int (nI (mAll X mz PD kind al).2.2.1), .int (bI (mAll X mz PD kind al).2.2.2.1)])), (tx, .inl (c1, 256, .inl X)), (pt, .inl (c2, 256, .inl (mAll X mz PD kind al).2.2.2.2.1))] H := by
        try rw [hF9]
        exact hP.sub [1, 2, 0] rfl
      have hD9 : va_D A [(q, .inr (5, [.int th, .ref tx, .int (nI mz), .int fl, .int (bI it), .long (mAll X mz PD kind al).2.1, .ref pt, .int (nI (mAll X mz PD kind al).2.2.2.2.2), .ref ot, .int (nI wr), .int (nI kz), .ref ka, .ref kd, .ref kp, .int (nI (mAll X mz PD kind al).2.2.1), .int (bI (mAll X mz PD kind al).2.2.2.1)])), (tx, .inl (c1, 256, .inl X)), (pt, .inl (c2, 256, .inl (mAll X mz PD kind al).2.2.2.2.1))] := by
        try rw [hF9]
        exact hD.sub [1, 2, 0] (by decide) rfl
      have hv9 : (1 : Int32) = (mAll X mz PD kind al).1 := by
        try rw [hF9]
        try rfl
      exact kc_iret hx hb hr hlocks hv9 hP9 hD9 hS dX5_readAll_75
def mPut1 (U : Nat → Int32) (wr : Nat) (v : Int32) : (Nat → Int32) × Nat :=
  (upd U wr (48 + ((v / 1) - (v / 1) / 10 * 10)), (wr + 1))
set_option maxHeartbeats 4000000 in
set_option maxRecDepth 100000 in
theorem m_put1 (l : Launch) (dC : Nat → ClassId) (dI : Nat → Nat → Nat) (st sz : Nat) (q : Nat) (th : Int32) (tx : Nat) (mz : Nat) (fl : Int32) (it : Bool) (al : Int64) (pt : Nat) (dg : Nat) (ot : Nat) (wr : Nat) (kz : Nat) (ka : Nat) (kd : Nat) (kp : Nat) (ma : Nat) (wg : Bool) (c3 : ClassId) (U : Nat → Int32) (v : Int32) (hw : wr ≤ 255) : Met l yX5_put wsX5_put ({ frames := 0, cells := 0, slots := 0, locals := 0 }) (kc_Pc (dC, dI) kcl st sz [.ref q, .int v, .int 1] [(q, .inr (5, [.int th, .ref tx, .int (nI mz), .int fl, .int (bI it), .long al, .ref pt, .int (nI dg), .ref ot, .int (nI wr), .int (nI kz), .ref ka, .ref kd, .ref kp, .int (nI ma), .int (bI wg)])), (ot, .inl (c3, 256, .inl U))] [(c3, .int)]) (kc_Qv (dC, dI) kcl [(q, .inr (5, [.int th, .ref tx, .int (nI mz), .int fl, .int (bI it), .long al, .ref pt, .int (nI dg), .ref ot, .int (nI (mPut1 U wr v).2), .int (nI kz), .ref ka, .ref kd, .ref kp, .int (nI ma), .int (bI wg)])), (ot, .inl (c3, 256, .inl (mPut1 U wr v).1))] (va_A [(q, .inr (5, [.int th, .ref tx, .int (nI mz), .int fl, .int (bI it), .long al, .ref pt, .int (nI dg), .ref ot, .int (nI wr), .int (nI kz), .ref ka, .ref kd, .ref kp, .int (nI ma), .int (bI wg)])), (ot, .inl (c3, 256, .inl U))] sz)) 0 0 (va_A [(q, .inr (5, [.int th, .ref tx, .int (nI mz), .int fl, .int (bI it), .long al, .ref pt, .int (nI dg), .ref ot, .int (nI wr), .int (nI kz), .ref ka, .ref kd, .ref kp, .int (nI ma), .int (bI wg)])), (ot, .inl (c3, 256, .inl U))] sz) := by
  refine kc_ofW (Qc := fun A => (kc_Qv (dC, dI) kcl [(q, .inr (5, [.int th, .ref tx, .int (nI mz), .int fl, .int (bI it), .long al, .ref pt, .int (nI dg), .ref ot, .int (nI (mPut1 U wr v).2), .int (nI kz), .ref ka, .ref kd, .ref kp, .int (nI ma), .int (bI wg)])), (ot, .inl (c3, 256, .inl (mPut1 U wr v).1))] A)) (cc := cX5_put) (maxL := 5) (ret := none) (by decide) rfl (Nat.le_of_ble_eq_true rfl) ?_
  intro p e s m below meth c A ls Cx hA hG hK hP hD hS hl
  obtain ⟨hx, hb, hr, hml, hown, hts, hlocks, hnm⟩ := id Cx
  have hl : lv_has ls 5 [(0, .ref q), (1, .int v), (2, .int 1)] := hl
  refine lv_iconst (v := 1) hx hb dX5_put_0 (by decide) ?_
  refine lv_istore_n (lv' := [(3, .int 1), (0, .ref q), (1, .int v), (2, .int 1)]) hx hb dX5_put_1 rfl hl (by decide) rfl (fun ls hl => ?_)
  refine lv_iconst (v := 1) hx hb dX5_put_2 (by decide) ?_
  refine lv_istore (lv' := [(4, .int 1), (3, .int 1), (0, .ref q), (1, .int v), (2, .int 1)]) hx hb dX5_put_3 hl (by decide) rfl (fun ls hl => ?_)
  refine lv_iload hx hb dX5_put_5 (lv_at hl 0 rfl) ?_
  refine lv_iload_n hx hb dX5_put_7 rfl (lv_at hl 4 rfl) ?_
  refine lv_icmp_ge (tgt := 22) hx hb dX5_put_8 (by decide) (fun c_8 => ?_) (fun c_8 => ?_)
  · refine lv_iconst (v := 0) hx hb dX5_put_22 (by decide) ?_
    refine lv_istore (lv' := [(4, .int 0), (3, .int 1), (0, .ref q), (1, .int v), (2, .int 1)]) hx hb dX5_put_23 hl (by decide) rfl (fun ls hl => ?_)
    refine lv_iload hx hb dX5_put_25 (lv_at hl 0 rfl) ?_
    refine lv_iload_n hx hb dX5_put_27 rfl (lv_at hl 4 rfl) ?_
    refine lv_icmp_ge (tgt := 70) hx hb dX5_put_28 (by decide) (fun c_28 => ?_) (fun c_28 => ?_)
    · exact absurd c_28 (by decide)
    · refine lv_aload_n hx hb dX5_put_31 rfl (lv_at hl 2 rfl) ?_
      refine va_get (D := (dC, dI)) (ci := 5) (v := .ref ot) (C := RX5) (T := TX5) (N := 16) hx hb hts kin_5 hown hK hP 0 rfl rfl 8 (by decide) (hts _ (kcm kwm_270)) (fun _ h9 => h9) rfl dX5_put_32 ?_
      refine lv_aload_n hx hb dX5_put_35 rfl (lv_at hl 2 rfl) ?_
      refine va_get (D := (dC, dI)) (ci := 5) (v := .int (nI wr)) (C := RX5) (T := TX5) (N := 16) hx hb hts kin_5 hown hK hP 0 rfl rfl 9 (by decide) (hts _ (kcm kwm_271)) (fun _ h9 => h9) rfl dX5_put_36 ?_
      refine lv_bipush (v := 48) hx hb dX5_put_39 (by decide) ?_
      refine lv_iload_n hx hb dX5_put_41 rfl (lv_at hl 3 rfl) ?_
      refine lv_iload_n hx hb dX5_put_42 rfl (lv_at hl 1 rfl) ?_
      refine lv_idiv hx hb dX5_put_43 (by decide) ?_
      refine lv_bipush (v := 10) hx hb dX5_put_44 (by decide) ?_
      refine lv_irem hx hb dX5_put_46 (by decide) ?_
      refine lv_iadd hx hb dX5_put_47 ?_
      refine va_iast hx hb hK hP hD hS 1 0 rfl rfl (vp_in_nI (by omega) (by decide)) dX5_put_48 (fun H locs hP hD hS => ?_)
      rw [show (nI wr).toNatClampNeg = wr from nI_clamp (by omega)] at hP hD
      have hP : va_P (dC, dI) kcl [(q, .inr (5, [.int th, .ref tx, .int (nI mz), .int fl, .int (bI it), .long al, .ref pt, .int (nI dg), .ref ot, .int (nI wr), .int (nI kz), .ref ka, .ref kd, .ref kp, .int (nI ma), .int (bI wg)])), (ot, .inl (c3, 256, .inl (upd U wr (48 + ((v / 1) - (v / 1) / 10 * 10)))))] H := hP
      have hD : va_D A [(q, .inr (5, [.int th, .ref tx, .int (nI mz), .int fl, .int (bI it), .long al, .ref pt, .int (nI dg), .ref ot, .int (nI wr), .int (nI kz), .ref ka, .ref kd, .ref kp, .int (nI ma), .int (bI wg)])), (ot, .inl (c3, 256, .inl (upd U wr (48 + ((v / 1) - (v / 1) / 10 * 10)))))] := hD
      refine lv_aload_n hx hb dX5_put_49 rfl (lv_at hl 2 rfl) ?_
      refine lv_dup hx hb dX5_put_50 rfl ?_
      refine va_get (D := (dC, dI)) (ci := 5) (v := .int (nI wr)) (C := RX5) (T := TX5) (N := 16) hx hb hts kin_5 hown hK hP 0 rfl rfl 9 (by decide) (hts _ (kcm kwm_271)) (fun _ h9 => h9) rfl dX5_put_51 ?_
      refine lv_iconst (v := 1) hx hb dX5_put_54 (by decide) ?_
      refine lv_iadd hx hb dX5_put_55 ?_
      rw [show (nI wr) + 1 = nI (wr + 1) from nI_add wr 1]
      refine va_put (D := (dC, dI)) (ci := 5) (v := .int (nI (wr + 1))) (ty := .int) (C := RX5) (T := TX5) (N := 16) hx hb hts kin_5 tyX5 tyX5_ok nmX5 hown hK hP hD hS 0 rfl rfl 9 (by decide) (hts _ (kcm kwm_271)) (fun _ h9 => h9) rfl (by decide +kernel) rfl rfl (Nat.le_of_ble_eq_true rfl) dX5_put_56 (fun H locs hP hD hS => ?_)
      have hP : va_P (dC, dI) kcl [(q, .inr (5, [.int th, .ref tx, .int (nI mz), .int fl, .int (bI it), .long al, .ref pt, .int (nI dg), .ref ot, .int (nI (wr + 1)), .int (nI kz), .ref ka, .ref kd, .ref kp, .int (nI ma), .int (bI wg)])), (ot, .inl (c3, 256, .inl (upd U wr (48 + ((v / 1) - (v / 1) / 10 * 10)))))] H := hP
      have hD : va_D A [(q, .inr (5, [.int th, .ref tx, .int (nI mz), .int fl, .int (bI it), .long al, .ref pt, .int (nI dg), .ref ot, .int (nI (wr + 1)), .int (nI kz), .ref ka, .ref kd, .ref kp, .int (nI ma), .int (bI wg)])), (ot, .inl (c3, 256, .inl (upd U wr (48 + ((v / 1) - (v / 1) / 10 * 10)))))] := hD
      refine lv_iload_n hx hb dX5_put_59 rfl (lv_at hl 1 rfl) ?_
      refine lv_bipush (v := 10) hx hb dX5_put_60 (by decide) ?_
      refine lv_idiv hx hb dX5_put_62 (by decide) ?_
      rw [show ((1 : Int32) / 10) = 0 from by decide]
      refine lv_istore_n (lv' := [(3, .int 0), (4, .int 0), (0, .ref q), (1, .int v), (2, .int 1)]) hx hb dX5_put_63 rfl hl (by decide) rfl (fun ls hl => ?_)
      refine lv_iinc (v := 1) (lv' := [(4, .int 1), (3, .int 0), (0, .ref q), (1, .int v), (2, .int 1)]) hx hb dX5_put_64 hl (k := 1) rfl (by decide) (by decide) rfl (fun ls hl => ?_)
      refine lv_goto (tgt := 25) hx hb dX5_put_67 (by decide) ?_
      refine lv_iload hx hb dX5_put_25 (lv_at hl 0 rfl) ?_
      refine lv_iload_n hx hb dX5_put_27 rfl (lv_at hl 4 rfl) ?_
      refine lv_icmp_ge (tgt := 70) hx hb dX5_put_28 (by decide) (fun c_28 => ?_) (fun c_28 => ?_)
      · have hF9 : mPut1 U wr v = (upd U wr (48 + ((v / 1) - (v / 1) / 10 * 10)), (wr + 1)) := by
          first | (simp only [mPut1]; done) | rfl
        have hP9 : va_P (dC, dI) kcl [(q, .inr (5, [.int th, .ref tx, .int (nI mz), .int fl, .int (bI it), .long al, .ref pt, .int (nI dg), .ref ot, .int (nI (mPut1 U wr v).2), .int (nI kz), .ref ka, .ref kd, .ref kp, .int (nI ma), .int (bI wg)])), (ot, .inl (c3, 256, .inl (mPut1 U wr v).1))] H := by
          try rw [hF9]
          exact hP.sub [0, 1] rfl
        have hD9 : va_D A [(q, .inr (5, [.int th, .ref tx, .int (nI mz), .int fl, .int (bI it), .long al, .ref pt, .int (nI dg), .ref ot, .int (nI (mPut1 U wr v).2), .int (nI kz), .ref ka, .ref kd, .ref kp, .int (nI ma), .int (bI wg)])), (ot, .inl (c3, 256, .inl (mPut1 U wr v).1))] := by
          try rw [hF9]
          exact hD.sub [0, 1] (by decide) rfl
        exact kc_vret hx hb hr hlocks hP9 hD9 hS dX5_put_70
      · exact absurd (by decide) c_28
  · exact absurd (by decide) c_8
def mPut2 (U : Nat → Int32) (wr : Nat) (v : Int32) : (Nat → Int32) × Nat :=
  (upd (upd U wr (48 + ((v / 10) - (v / 10) / 10 * 10))) (wr + 1) (48 + ((v / 1) - (v / 1) / 10 * 10)), ((wr + 1) + 1))
set_option maxHeartbeats 4000000 in
set_option maxRecDepth 100000 in
theorem m_put2 (l : Launch) (dC : Nat → ClassId) (dI : Nat → Nat → Nat) (st sz : Nat) (q : Nat) (th : Int32) (tx : Nat) (mz : Nat) (fl : Int32) (it : Bool) (al : Int64) (pt : Nat) (dg : Nat) (ot : Nat) (wr : Nat) (kz : Nat) (ka : Nat) (kd : Nat) (kp : Nat) (ma : Nat) (wg : Bool) (c3 : ClassId) (U : Nat → Int32) (v : Int32) (hw : wr ≤ 254) : Met l yX5_put wsX5_put ({ frames := 0, cells := 0, slots := 0, locals := 0 }) (kc_Pc (dC, dI) kcl st sz [.ref q, .int v, .int 2] [(q, .inr (5, [.int th, .ref tx, .int (nI mz), .int fl, .int (bI it), .long al, .ref pt, .int (nI dg), .ref ot, .int (nI wr), .int (nI kz), .ref ka, .ref kd, .ref kp, .int (nI ma), .int (bI wg)])), (ot, .inl (c3, 256, .inl U))] [(c3, .int)]) (kc_Qv (dC, dI) kcl [(q, .inr (5, [.int th, .ref tx, .int (nI mz), .int fl, .int (bI it), .long al, .ref pt, .int (nI dg), .ref ot, .int (nI (mPut2 U wr v).2), .int (nI kz), .ref ka, .ref kd, .ref kp, .int (nI ma), .int (bI wg)])), (ot, .inl (c3, 256, .inl (mPut2 U wr v).1))] (va_A [(q, .inr (5, [.int th, .ref tx, .int (nI mz), .int fl, .int (bI it), .long al, .ref pt, .int (nI dg), .ref ot, .int (nI wr), .int (nI kz), .ref ka, .ref kd, .ref kp, .int (nI ma), .int (bI wg)])), (ot, .inl (c3, 256, .inl U))] sz)) 0 0 (va_A [(q, .inr (5, [.int th, .ref tx, .int (nI mz), .int fl, .int (bI it), .long al, .ref pt, .int (nI dg), .ref ot, .int (nI wr), .int (nI kz), .ref ka, .ref kd, .ref kp, .int (nI ma), .int (bI wg)])), (ot, .inl (c3, 256, .inl U))] sz) := by
  refine kc_ofW (Qc := fun A => (kc_Qv (dC, dI) kcl [(q, .inr (5, [.int th, .ref tx, .int (nI mz), .int fl, .int (bI it), .long al, .ref pt, .int (nI dg), .ref ot, .int (nI (mPut2 U wr v).2), .int (nI kz), .ref ka, .ref kd, .ref kp, .int (nI ma), .int (bI wg)])), (ot, .inl (c3, 256, .inl (mPut2 U wr v).1))] A)) (cc := cX5_put) (maxL := 5) (ret := none) (by decide) rfl (Nat.le_of_ble_eq_true rfl) ?_
  intro p e s m below meth c A ls Cx hA hG hK hP hD hS hl
  obtain ⟨hx, hb, hr, hml, hown, hts, hlocks, hnm⟩ := id Cx
  have hl : lv_has ls 5 [(0, .ref q), (1, .int v), (2, .int 2)] := hl
  refine lv_iconst (v := 1) hx hb dX5_put_0 (by decide) ?_
  refine lv_istore_n (lv' := [(3, .int 1), (0, .ref q), (1, .int v), (2, .int 2)]) hx hb dX5_put_1 rfl hl (by decide) rfl (fun ls hl => ?_)
  refine lv_iconst (v := 1) hx hb dX5_put_2 (by decide) ?_
  refine lv_istore (lv' := [(4, .int 1), (3, .int 1), (0, .ref q), (1, .int v), (2, .int 2)]) hx hb dX5_put_3 hl (by decide) rfl (fun ls hl => ?_)
  refine lv_iload hx hb dX5_put_5 (lv_at hl 0 rfl) ?_
  refine lv_iload_n hx hb dX5_put_7 rfl (lv_at hl 4 rfl) ?_
  refine lv_icmp_ge (tgt := 22) hx hb dX5_put_8 (by decide) (fun c_8 => ?_) (fun c_8 => ?_)
  · exact absurd c_8 (by decide)
  · refine lv_bipush (v := 10) hx hb dX5_put_11 (by decide) ?_
    refine lv_iload_n hx hb dX5_put_13 rfl (lv_at hl 1 rfl) ?_
    refine lv_imul hx hb dX5_put_14 ?_
    rw [show ((10 : Int32) * 1) = 10 from by decide]
    refine lv_istore_n (lv' := [(3, .int 10), (4, .int 1), (0, .ref q), (1, .int v), (2, .int 2)]) hx hb dX5_put_15 rfl hl (by decide) rfl (fun ls hl => ?_)
    refine lv_iinc (v := 2) (lv' := [(4, .int 2), (3, .int 10), (0, .ref q), (1, .int v), (2, .int 2)]) hx hb dX5_put_16 hl (k := 1) rfl (by decide) (by decide) rfl (fun ls hl => ?_)
    refine lv_goto (tgt := 5) hx hb dX5_put_19 (by decide) ?_
    refine lv_iload hx hb dX5_put_5 (lv_at hl 0 rfl) ?_
    refine lv_iload_n hx hb dX5_put_7 rfl (lv_at hl 4 rfl) ?_
    refine lv_icmp_ge (tgt := 22) hx hb dX5_put_8 (by decide) (fun c_8 => ?_) (fun c_8 => ?_)
    · refine lv_iconst (v := 0) hx hb dX5_put_22 (by decide) ?_
      refine lv_istore (lv' := [(4, .int 0), (3, .int 10), (0, .ref q), (1, .int v), (2, .int 2)]) hx hb dX5_put_23 hl (by decide) rfl (fun ls hl => ?_)
      refine lv_iload hx hb dX5_put_25 (lv_at hl 0 rfl) ?_
      refine lv_iload_n hx hb dX5_put_27 rfl (lv_at hl 4 rfl) ?_
      refine lv_icmp_ge (tgt := 70) hx hb dX5_put_28 (by decide) (fun c_28 => ?_) (fun c_28 => ?_)
      · exact absurd c_28 (by decide)
      · refine lv_aload_n hx hb dX5_put_31 rfl (lv_at hl 2 rfl) ?_
        refine va_get (D := (dC, dI)) (ci := 5) (v := .ref ot) (C := RX5) (T := TX5) (N := 16) hx hb hts kin_5 hown hK hP 0 rfl rfl 8 (by decide) (hts _ (kcm kwm_270)) (fun _ h9 => h9) rfl dX5_put_32 ?_
        refine lv_aload_n hx hb dX5_put_35 rfl (lv_at hl 2 rfl) ?_
        refine va_get (D := (dC, dI)) (ci := 5) (v := .int (nI wr)) (C := RX5) (T := TX5) (N := 16) hx hb hts kin_5 hown hK hP 0 rfl rfl 9 (by decide) (hts _ (kcm kwm_271)) (fun _ h9 => h9) rfl dX5_put_36 ?_
        refine lv_bipush (v := 48) hx hb dX5_put_39 (by decide) ?_
        refine lv_iload_n hx hb dX5_put_41 rfl (lv_at hl 3 rfl) ?_
        refine lv_iload_n hx hb dX5_put_42 rfl (lv_at hl 1 rfl) ?_
        refine lv_idiv hx hb dX5_put_43 (by decide) ?_
        refine lv_bipush (v := 10) hx hb dX5_put_44 (by decide) ?_
        refine lv_irem hx hb dX5_put_46 (by decide) ?_
        refine lv_iadd hx hb dX5_put_47 ?_
        refine va_iast hx hb hK hP hD hS 1 0 rfl rfl (vp_in_nI (by omega) (by decide)) dX5_put_48 (fun H locs hP hD hS => ?_)
        rw [show (nI wr).toNatClampNeg = wr from nI_clamp (by omega)] at hP hD
        have hP : va_P (dC, dI) kcl [(q, .inr (5, [.int th, .ref tx, .int (nI mz), .int fl, .int (bI it), .long al, .ref pt, .int (nI dg), .ref ot, .int (nI wr), .int (nI kz), .ref ka, .ref kd, .ref kp, .int (nI ma), .int (bI wg)])), (ot, .inl (c3, 256, .inl (upd U wr (48 + ((v / 10) - (v / 10) / 10 * 10)))))] H := hP
        have hD : va_D A [(q, .inr (5, [.int th, .ref tx, .int (nI mz), .int fl, .int (bI it), .long al, .ref pt, .int (nI dg), .ref ot, .int (nI wr), .int (nI kz), .ref ka, .ref kd, .ref kp, .int (nI ma), .int (bI wg)])), (ot, .inl (c3, 256, .inl (upd U wr (48 + ((v / 10) - (v / 10) / 10 * 10)))))] := hD
        refine lv_aload_n hx hb dX5_put_49 rfl (lv_at hl 2 rfl) ?_
        refine lv_dup hx hb dX5_put_50 rfl ?_
        refine va_get (D := (dC, dI)) (ci := 5) (v := .int (nI wr)) (C := RX5) (T := TX5) (N := 16) hx hb hts kin_5 hown hK hP 0 rfl rfl 9 (by decide) (hts _ (kcm kwm_271)) (fun _ h9 => h9) rfl dX5_put_51 ?_
        refine lv_iconst (v := 1) hx hb dX5_put_54 (by decide) ?_
        refine lv_iadd hx hb dX5_put_55 ?_
        rw [show (nI wr) + 1 = nI (wr + 1) from nI_add wr 1]
        refine va_put (D := (dC, dI)) (ci := 5) (v := .int (nI (wr + 1))) (ty := .int) (C := RX5) (T := TX5) (N := 16) hx hb hts kin_5 tyX5 tyX5_ok nmX5 hown hK hP hD hS 0 rfl rfl 9 (by decide) (hts _ (kcm kwm_271)) (fun _ h9 => h9) rfl (by decide +kernel) rfl rfl (Nat.le_of_ble_eq_true rfl) dX5_put_56 (fun H locs hP hD hS => ?_)
        have hP : va_P (dC, dI) kcl [(q, .inr (5, [.int th, .ref tx, .int (nI mz), .int fl, .int (bI it), .long al, .ref pt, .int (nI dg), .ref ot, .int (nI (wr + 1)), .int (nI kz), .ref ka, .ref kd, .ref kp, .int (nI ma), .int (bI wg)])), (ot, .inl (c3, 256, .inl (upd U wr (48 + ((v / 10) - (v / 10) / 10 * 10)))))] H := hP
        have hD : va_D A [(q, .inr (5, [.int th, .ref tx, .int (nI mz), .int fl, .int (bI it), .long al, .ref pt, .int (nI dg), .ref ot, .int (nI (wr + 1)), .int (nI kz), .ref ka, .ref kd, .ref kp, .int (nI ma), .int (bI wg)])), (ot, .inl (c3, 256, .inl (upd U wr (48 + ((v / 10) - (v / 10) / 10 * 10)))))] := hD
        refine lv_iload_n hx hb dX5_put_59 rfl (lv_at hl 1 rfl) ?_
        refine lv_bipush (v := 10) hx hb dX5_put_60 (by decide) ?_
        refine lv_idiv hx hb dX5_put_62 (by decide) ?_
        rw [show ((10 : Int32) / 10) = 1 from by decide]
        refine lv_istore_n (lv' := [(3, .int 1), (4, .int 0), (0, .ref q), (1, .int v), (2, .int 2)]) hx hb dX5_put_63 rfl hl (by decide) rfl (fun ls hl => ?_)
        refine lv_iinc (v := 1) (lv' := [(4, .int 1), (3, .int 1), (0, .ref q), (1, .int v), (2, .int 2)]) hx hb dX5_put_64 hl (k := 1) rfl (by decide) (by decide) rfl (fun ls hl => ?_)
        refine lv_goto (tgt := 25) hx hb dX5_put_67 (by decide) ?_
        refine lv_iload hx hb dX5_put_25 (lv_at hl 0 rfl) ?_
        refine lv_iload_n hx hb dX5_put_27 rfl (lv_at hl 4 rfl) ?_
        refine lv_icmp_ge (tgt := 70) hx hb dX5_put_28 (by decide) (fun c_28 => ?_) (fun c_28 => ?_)
        · exact absurd c_28 (by decide)
        · refine lv_aload_n hx hb dX5_put_31 rfl (lv_at hl 2 rfl) ?_
          refine va_get (D := (dC, dI)) (ci := 5) (v := .ref ot) (C := RX5) (T := TX5) (N := 16) hx hb hts kin_5 hown hK hP 0 rfl rfl 8 (by decide) (hts _ (kcm kwm_270)) (fun _ h9 => h9) rfl dX5_put_32 ?_
          refine lv_aload_n hx hb dX5_put_35 rfl (lv_at hl 2 rfl) ?_
          refine va_get (D := (dC, dI)) (ci := 5) (v := .int (nI (wr + 1))) (C := RX5) (T := TX5) (N := 16) hx hb hts kin_5 hown hK hP 0 rfl rfl 9 (by decide) (hts _ (kcm kwm_271)) (fun _ h9 => h9) rfl dX5_put_36 ?_
          refine lv_bipush (v := 48) hx hb dX5_put_39 (by decide) ?_
          refine lv_iload_n hx hb dX5_put_41 rfl (lv_at hl 3 rfl) ?_
          refine lv_iload_n hx hb dX5_put_42 rfl (lv_at hl 1 rfl) ?_
          refine lv_idiv hx hb dX5_put_43 (by decide) ?_
          refine lv_bipush (v := 10) hx hb dX5_put_44 (by decide) ?_
          refine lv_irem hx hb dX5_put_46 (by decide) ?_
          refine lv_iadd hx hb dX5_put_47 ?_
          refine va_iast hx hb hK hP hD hS 1 0 rfl rfl (vp_in_nI (by omega) (by decide)) dX5_put_48 (fun H locs hP hD hS => ?_)
          rw [show (nI (wr + 1)).toNatClampNeg = (wr + 1) from nI_clamp (by omega)] at hP hD
          have hP : va_P (dC, dI) kcl [(q, .inr (5, [.int th, .ref tx, .int (nI mz), .int fl, .int (bI it), .long al, .ref pt, .int (nI dg), .ref ot, .int (nI (wr + 1)), .int (nI kz), .ref ka, .ref kd, .ref kp, .int (nI ma), .int (bI wg)])), (ot, .inl (c3, 256, .inl (upd (upd U wr (48 + ((v / 10) - (v / 10) / 10 * 10))) (wr + 1) (48 + ((v / 1) - (v / 1) / 10 * 10)))))] H := hP
          have hD : va_D A [(q, .inr (5, [.int th, .ref tx, .int (nI mz), .int fl, .int (bI it), .long al, .ref pt, .int (nI dg), .ref ot, .int (nI (wr + 1)), .int (nI kz), .ref ka, .ref kd, .ref kp, .int (nI ma), .int (bI wg)])), (ot, .inl (c3, 256, .inl (upd (upd U wr (48 + ((v / 10) - (v / 10) / 10 * 10))) (wr + 1) (48 + ((v / 1) - (v / 1) / 10 * 10)))))] := hD
          refine lv_aload_n hx hb dX5_put_49 rfl (lv_at hl 2 rfl) ?_
          refine lv_dup hx hb dX5_put_50 rfl ?_
          refine va_get (D := (dC, dI)) (ci := 5) (v := .int (nI (wr + 1))) (C := RX5) (T := TX5) (N := 16) hx hb hts kin_5 hown hK hP 0 rfl rfl 9 (by decide) (hts _ (kcm kwm_271)) (fun _ h9 => h9) rfl dX5_put_51 ?_
          refine lv_iconst (v := 1) hx hb dX5_put_54 (by decide) ?_
          refine lv_iadd hx hb dX5_put_55 ?_
          rw [show (nI (wr + 1)) + 1 = nI ((wr + 1) + 1) from nI_add (wr + 1) 1]
          refine va_put (D := (dC, dI)) (ci := 5) (v := .int (nI ((wr + 1) + 1))) (ty := .int) (C := RX5) (T := TX5) (N := 16) hx hb hts kin_5 tyX5 tyX5_ok nmX5 hown hK hP hD hS 0 rfl rfl 9 (by decide) (hts _ (kcm kwm_271)) (fun _ h9 => h9) rfl (by decide +kernel) rfl rfl (Nat.le_of_ble_eq_true rfl) dX5_put_56 (fun H locs hP hD hS => ?_)
          have hP : va_P (dC, dI) kcl [(q, .inr (5, [.int th, .ref tx, .int (nI mz), .int fl, .int (bI it), .long al, .ref pt, .int (nI dg), .ref ot, .int (nI ((wr + 1) + 1)), .int (nI kz), .ref ka, .ref kd, .ref kp, .int (nI ma), .int (bI wg)])), (ot, .inl (c3, 256, .inl (upd (upd U wr (48 + ((v / 10) - (v / 10) / 10 * 10))) (wr + 1) (48 + ((v / 1) - (v / 1) / 10 * 10)))))] H := hP
          have hD : va_D A [(q, .inr (5, [.int th, .ref tx, .int (nI mz), .int fl, .int (bI it), .long al, .ref pt, .int (nI dg), .ref ot, .int (nI ((wr + 1) + 1)), .int (nI kz), .ref ka, .ref kd, .ref kp, .int (nI ma), .int (bI wg)])), (ot, .inl (c3, 256, .inl (upd (upd U wr (48 + ((v / 10) - (v / 10) / 10 * 10))) (wr + 1) (48 + ((v / 1) - (v / 1) / 10 * 10)))))] := hD
          refine lv_iload_n hx hb dX5_put_59 rfl (lv_at hl 1 rfl) ?_
          refine lv_bipush (v := 10) hx hb dX5_put_60 (by decide) ?_
          refine lv_idiv hx hb dX5_put_62 (by decide) ?_
          rw [show ((1 : Int32) / 10) = 0 from by decide]
          refine lv_istore_n (lv' := [(3, .int 0), (4, .int 1), (0, .ref q), (1, .int v), (2, .int 2)]) hx hb dX5_put_63 rfl hl (by decide) rfl (fun ls hl => ?_)
          refine lv_iinc (v := 2) (lv' := [(4, .int 2), (3, .int 0), (0, .ref q), (1, .int v), (2, .int 2)]) hx hb dX5_put_64 hl (k := 1) rfl (by decide) (by decide) rfl (fun ls hl => ?_)
          refine lv_goto (tgt := 25) hx hb dX5_put_67 (by decide) ?_
          refine lv_iload hx hb dX5_put_25 (lv_at hl 0 rfl) ?_
          refine lv_iload_n hx hb dX5_put_27 rfl (lv_at hl 4 rfl) ?_
          refine lv_icmp_ge (tgt := 70) hx hb dX5_put_28 (by decide) (fun c_28 => ?_) (fun c_28 => ?_)
          · have hF9 : mPut2 U wr v = (upd (upd U wr (48 + ((v / 10) - (v / 10) / 10 * 10))) (wr + 1) (48 + ((v / 1) - (v / 1) / 10 * 10)), ((wr + 1) + 1)) := by
              first | (simp only [mPut2]; done) | rfl
            have hP9 : va_P (dC, dI) kcl [(q, .inr (5, [.int th, .ref tx, .int (nI mz), .int fl, .int (bI it), .long al, .ref pt, .int (nI dg), .ref ot, .int (nI (mPut2 U wr v).2), .int (nI kz), .ref ka, .ref kd, .ref kp, .int (nI ma), .int (bI wg)])), (ot, .inl (c3, 256, .inl (mPut2 U wr v).1))] H := by
              try rw [hF9]
              exact hP.sub [0, 1] rfl
            have hD9 : va_D A [(q, .inr (5, [.int th, .ref tx, .int (nI mz), .int fl, .int (bI it), .long al, .ref pt, .int (nI dg), .ref ot, .int (nI (mPut2 U wr v).2), .int (nI kz), .ref ka, .ref kd, .ref kp, .int (nI ma), .int (bI wg)])), (ot, .inl (c3, 256, .inl (mPut2 U wr v).1))] := by
              try rw [hF9]
              exact hD.sub [0, 1] (by decide) rfl
            exact kc_vret hx hb hr hlocks hP9 hD9 hS dX5_put_70
          · exact absurd (by decide) c_28
    · exact absurd (by decide) c_8
def mPut4 (U : Nat → Int32) (wr : Nat) (v : Int32) : (Nat → Int32) × Nat :=
  (upd (upd (upd (upd U wr (48 + ((v / 1000) - (v / 1000) / 10 * 10))) (wr + 1) (48 + ((v / 100) - (v / 100) / 10 * 10))) ((wr + 1) + 1) (48 + ((v / 10) - (v / 10) / 10 * 10))) (((wr + 1) + 1) + 1) (48 + ((v / 1) - (v / 1) / 10 * 10)), ((((wr + 1) + 1) + 1) + 1))
set_option maxHeartbeats 4000000 in
set_option maxRecDepth 100000 in
theorem m_put4 (l : Launch) (dC : Nat → ClassId) (dI : Nat → Nat → Nat) (st sz : Nat) (q : Nat) (th : Int32) (tx : Nat) (mz : Nat) (fl : Int32) (it : Bool) (al : Int64) (pt : Nat) (dg : Nat) (ot : Nat) (wr : Nat) (kz : Nat) (ka : Nat) (kd : Nat) (kp : Nat) (ma : Nat) (wg : Bool) (c3 : ClassId) (U : Nat → Int32) (v : Int32) (hw : wr ≤ 252) : Met l yX5_put wsX5_put ({ frames := 0, cells := 0, slots := 0, locals := 0 }) (kc_Pc (dC, dI) kcl st sz [.ref q, .int v, .int 4] [(q, .inr (5, [.int th, .ref tx, .int (nI mz), .int fl, .int (bI it), .long al, .ref pt, .int (nI dg), .ref ot, .int (nI wr), .int (nI kz), .ref ka, .ref kd, .ref kp, .int (nI ma), .int (bI wg)])), (ot, .inl (c3, 256, .inl U))] [(c3, .int)]) (kc_Qv (dC, dI) kcl [(q, .inr (5, [.int th, .ref tx, .int (nI mz), .int fl, .int (bI it), .long al, .ref pt, .int (nI dg), .ref ot, .int (nI (mPut4 U wr v).2), .int (nI kz), .ref ka, .ref kd, .ref kp, .int (nI ma), .int (bI wg)])), (ot, .inl (c3, 256, .inl (mPut4 U wr v).1))] (va_A [(q, .inr (5, [.int th, .ref tx, .int (nI mz), .int fl, .int (bI it), .long al, .ref pt, .int (nI dg), .ref ot, .int (nI wr), .int (nI kz), .ref ka, .ref kd, .ref kp, .int (nI ma), .int (bI wg)])), (ot, .inl (c3, 256, .inl U))] sz)) 0 0 (va_A [(q, .inr (5, [.int th, .ref tx, .int (nI mz), .int fl, .int (bI it), .long al, .ref pt, .int (nI dg), .ref ot, .int (nI wr), .int (nI kz), .ref ka, .ref kd, .ref kp, .int (nI ma), .int (bI wg)])), (ot, .inl (c3, 256, .inl U))] sz) := by
  refine kc_ofW (Qc := fun A => (kc_Qv (dC, dI) kcl [(q, .inr (5, [.int th, .ref tx, .int (nI mz), .int fl, .int (bI it), .long al, .ref pt, .int (nI dg), .ref ot, .int (nI (mPut4 U wr v).2), .int (nI kz), .ref ka, .ref kd, .ref kp, .int (nI ma), .int (bI wg)])), (ot, .inl (c3, 256, .inl (mPut4 U wr v).1))] A)) (cc := cX5_put) (maxL := 5) (ret := none) (by decide) rfl (Nat.le_of_ble_eq_true rfl) ?_
  intro p e s m below meth c A ls Cx hA hG hK hP hD hS hl
  obtain ⟨hx, hb, hr, hml, hown, hts, hlocks, hnm⟩ := id Cx
  have hl : lv_has ls 5 [(0, .ref q), (1, .int v), (2, .int 4)] := hl
  refine lv_iconst (v := 1) hx hb dX5_put_0 (by decide) ?_
  refine lv_istore_n (lv' := [(3, .int 1), (0, .ref q), (1, .int v), (2, .int 4)]) hx hb dX5_put_1 rfl hl (by decide) rfl (fun ls hl => ?_)
  refine lv_iconst (v := 1) hx hb dX5_put_2 (by decide) ?_
  refine lv_istore (lv' := [(4, .int 1), (3, .int 1), (0, .ref q), (1, .int v), (2, .int 4)]) hx hb dX5_put_3 hl (by decide) rfl (fun ls hl => ?_)
  refine lv_iload hx hb dX5_put_5 (lv_at hl 0 rfl) ?_
  refine lv_iload_n hx hb dX5_put_7 rfl (lv_at hl 4 rfl) ?_
  refine lv_icmp_ge (tgt := 22) hx hb dX5_put_8 (by decide) (fun c_8 => ?_) (fun c_8 => ?_)
  · exact absurd c_8 (by decide)
  · refine lv_bipush (v := 10) hx hb dX5_put_11 (by decide) ?_
    refine lv_iload_n hx hb dX5_put_13 rfl (lv_at hl 1 rfl) ?_
    refine lv_imul hx hb dX5_put_14 ?_
    rw [show ((10 : Int32) * 1) = 10 from by decide]
    refine lv_istore_n (lv' := [(3, .int 10), (4, .int 1), (0, .ref q), (1, .int v), (2, .int 4)]) hx hb dX5_put_15 rfl hl (by decide) rfl (fun ls hl => ?_)
    refine lv_iinc (v := 2) (lv' := [(4, .int 2), (3, .int 10), (0, .ref q), (1, .int v), (2, .int 4)]) hx hb dX5_put_16 hl (k := 1) rfl (by decide) (by decide) rfl (fun ls hl => ?_)
    refine lv_goto (tgt := 5) hx hb dX5_put_19 (by decide) ?_
    refine lv_iload hx hb dX5_put_5 (lv_at hl 0 rfl) ?_
    refine lv_iload_n hx hb dX5_put_7 rfl (lv_at hl 4 rfl) ?_
    refine lv_icmp_ge (tgt := 22) hx hb dX5_put_8 (by decide) (fun c_8 => ?_) (fun c_8 => ?_)
    · exact absurd c_8 (by decide)
    · refine lv_bipush (v := 10) hx hb dX5_put_11 (by decide) ?_
      refine lv_iload_n hx hb dX5_put_13 rfl (lv_at hl 1 rfl) ?_
      refine lv_imul hx hb dX5_put_14 ?_
      rw [show ((10 : Int32) * 10) = 100 from by decide]
      refine lv_istore_n (lv' := [(3, .int 100), (4, .int 2), (0, .ref q), (1, .int v), (2, .int 4)]) hx hb dX5_put_15 rfl hl (by decide) rfl (fun ls hl => ?_)
      refine lv_iinc (v := 3) (lv' := [(4, .int 3), (3, .int 100), (0, .ref q), (1, .int v), (2, .int 4)]) hx hb dX5_put_16 hl (k := 1) rfl (by decide) (by decide) rfl (fun ls hl => ?_)
      refine lv_goto (tgt := 5) hx hb dX5_put_19 (by decide) ?_
      refine lv_iload hx hb dX5_put_5 (lv_at hl 0 rfl) ?_
      refine lv_iload_n hx hb dX5_put_7 rfl (lv_at hl 4 rfl) ?_
      refine lv_icmp_ge (tgt := 22) hx hb dX5_put_8 (by decide) (fun c_8 => ?_) (fun c_8 => ?_)
      · exact absurd c_8 (by decide)
      · refine lv_bipush (v := 10) hx hb dX5_put_11 (by decide) ?_
        refine lv_iload_n hx hb dX5_put_13 rfl (lv_at hl 1 rfl) ?_
        refine lv_imul hx hb dX5_put_14 ?_
        rw [show ((10 : Int32) * 100) = 1000 from by decide]
        refine lv_istore_n (lv' := [(3, .int 1000), (4, .int 3), (0, .ref q), (1, .int v), (2, .int 4)]) hx hb dX5_put_15 rfl hl (by decide) rfl (fun ls hl => ?_)
        refine lv_iinc (v := 4) (lv' := [(4, .int 4), (3, .int 1000), (0, .ref q), (1, .int v), (2, .int 4)]) hx hb dX5_put_16 hl (k := 1) rfl (by decide) (by decide) rfl (fun ls hl => ?_)
        refine lv_goto (tgt := 5) hx hb dX5_put_19 (by decide) ?_
        refine lv_iload hx hb dX5_put_5 (lv_at hl 0 rfl) ?_
        refine lv_iload_n hx hb dX5_put_7 rfl (lv_at hl 4 rfl) ?_
        refine lv_icmp_ge (tgt := 22) hx hb dX5_put_8 (by decide) (fun c_8 => ?_) (fun c_8 => ?_)
        · refine lv_iconst (v := 0) hx hb dX5_put_22 (by decide) ?_
          refine lv_istore (lv' := [(4, .int 0), (3, .int 1000), (0, .ref q), (1, .int v), (2, .int 4)]) hx hb dX5_put_23 hl (by decide) rfl (fun ls hl => ?_)
          refine lv_iload hx hb dX5_put_25 (lv_at hl 0 rfl) ?_
          refine lv_iload_n hx hb dX5_put_27 rfl (lv_at hl 4 rfl) ?_
          refine lv_icmp_ge (tgt := 70) hx hb dX5_put_28 (by decide) (fun c_28 => ?_) (fun c_28 => ?_)
          · exact absurd c_28 (by decide)
          · refine lv_aload_n hx hb dX5_put_31 rfl (lv_at hl 2 rfl) ?_
            refine va_get (D := (dC, dI)) (ci := 5) (v := .ref ot) (C := RX5) (T := TX5) (N := 16) hx hb hts kin_5 hown hK hP 0 rfl rfl 8 (by decide) (hts _ (kcm kwm_270)) (fun _ h9 => h9) rfl dX5_put_32 ?_
            refine lv_aload_n hx hb dX5_put_35 rfl (lv_at hl 2 rfl) ?_
            refine va_get (D := (dC, dI)) (ci := 5) (v := .int (nI wr)) (C := RX5) (T := TX5) (N := 16) hx hb hts kin_5 hown hK hP 0 rfl rfl 9 (by decide) (hts _ (kcm kwm_271)) (fun _ h9 => h9) rfl dX5_put_36 ?_
            refine lv_bipush (v := 48) hx hb dX5_put_39 (by decide) ?_
            refine lv_iload_n hx hb dX5_put_41 rfl (lv_at hl 3 rfl) ?_
            refine lv_iload_n hx hb dX5_put_42 rfl (lv_at hl 1 rfl) ?_
            refine lv_idiv hx hb dX5_put_43 (by decide) ?_
            refine lv_bipush (v := 10) hx hb dX5_put_44 (by decide) ?_
            refine lv_irem hx hb dX5_put_46 (by decide) ?_
            refine lv_iadd hx hb dX5_put_47 ?_
            refine va_iast hx hb hK hP hD hS 1 0 rfl rfl (vp_in_nI (by omega) (by decide)) dX5_put_48 (fun H locs hP hD hS => ?_)
            rw [show (nI wr).toNatClampNeg = wr from nI_clamp (by omega)] at hP hD
            have hP : va_P (dC, dI) kcl [(q, .inr (5, [.int th, .ref tx, .int (nI mz), .int fl, .int (bI it), .long al, .ref pt, .int (nI dg), .ref ot, .int (nI wr), .int (nI kz), .ref ka, .ref kd, .ref kp, .int (nI ma), .int (bI wg)])), (ot, .inl (c3, 256, .inl (upd U wr (48 + ((v / 1000) - (v / 1000) / 10 * 10)))))] H := hP
            have hD : va_D A [(q, .inr (5, [.int th, .ref tx, .int (nI mz), .int fl, .int (bI it), .long al, .ref pt, .int (nI dg), .ref ot, .int (nI wr), .int (nI kz), .ref ka, .ref kd, .ref kp, .int (nI ma), .int (bI wg)])), (ot, .inl (c3, 256, .inl (upd U wr (48 + ((v / 1000) - (v / 1000) / 10 * 10)))))] := hD
            refine lv_aload_n hx hb dX5_put_49 rfl (lv_at hl 2 rfl) ?_
            refine lv_dup hx hb dX5_put_50 rfl ?_
            refine va_get (D := (dC, dI)) (ci := 5) (v := .int (nI wr)) (C := RX5) (T := TX5) (N := 16) hx hb hts kin_5 hown hK hP 0 rfl rfl 9 (by decide) (hts _ (kcm kwm_271)) (fun _ h9 => h9) rfl dX5_put_51 ?_
            refine lv_iconst (v := 1) hx hb dX5_put_54 (by decide) ?_
            refine lv_iadd hx hb dX5_put_55 ?_
            rw [show (nI wr) + 1 = nI (wr + 1) from nI_add wr 1]
            refine va_put (D := (dC, dI)) (ci := 5) (v := .int (nI (wr + 1))) (ty := .int) (C := RX5) (T := TX5) (N := 16) hx hb hts kin_5 tyX5 tyX5_ok nmX5 hown hK hP hD hS 0 rfl rfl 9 (by decide) (hts _ (kcm kwm_271)) (fun _ h9 => h9) rfl (by decide +kernel) rfl rfl (Nat.le_of_ble_eq_true rfl) dX5_put_56 (fun H locs hP hD hS => ?_)
            have hP : va_P (dC, dI) kcl [(q, .inr (5, [.int th, .ref tx, .int (nI mz), .int fl, .int (bI it), .long al, .ref pt, .int (nI dg), .ref ot, .int (nI (wr + 1)), .int (nI kz), .ref ka, .ref kd, .ref kp, .int (nI ma), .int (bI wg)])), (ot, .inl (c3, 256, .inl (upd U wr (48 + ((v / 1000) - (v / 1000) / 10 * 10)))))] H := hP
            have hD : va_D A [(q, .inr (5, [.int th, .ref tx, .int (nI mz), .int fl, .int (bI it), .long al, .ref pt, .int (nI dg), .ref ot, .int (nI (wr + 1)), .int (nI kz), .ref ka, .ref kd, .ref kp, .int (nI ma), .int (bI wg)])), (ot, .inl (c3, 256, .inl (upd U wr (48 + ((v / 1000) - (v / 1000) / 10 * 10)))))] := hD
            refine lv_iload_n hx hb dX5_put_59 rfl (lv_at hl 1 rfl) ?_
            refine lv_bipush (v := 10) hx hb dX5_put_60 (by decide) ?_
            refine lv_idiv hx hb dX5_put_62 (by decide) ?_
            rw [show ((1000 : Int32) / 10) = 100 from by decide]
            refine lv_istore_n (lv' := [(3, .int 100), (4, .int 0), (0, .ref q), (1, .int v), (2, .int 4)]) hx hb dX5_put_63 rfl hl (by decide) rfl (fun ls hl => ?_)
            refine lv_iinc (v := 1) (lv' := [(4, .int 1), (3, .int 100), (0, .ref q), (1, .int v), (2, .int 4)]) hx hb dX5_put_64 hl (k := 1) rfl (by decide) (by decide) rfl (fun ls hl => ?_)
            refine lv_goto (tgt := 25) hx hb dX5_put_67 (by decide) ?_
            refine lv_iload hx hb dX5_put_25 (lv_at hl 0 rfl) ?_
            refine lv_iload_n hx hb dX5_put_27 rfl (lv_at hl 4 rfl) ?_
            refine lv_icmp_ge (tgt := 70) hx hb dX5_put_28 (by decide) (fun c_28 => ?_) (fun c_28 => ?_)
            · exact absurd c_28 (by decide)
            · refine lv_aload_n hx hb dX5_put_31 rfl (lv_at hl 2 rfl) ?_
              refine va_get (D := (dC, dI)) (ci := 5) (v := .ref ot) (C := RX5) (T := TX5) (N := 16) hx hb hts kin_5 hown hK hP 0 rfl rfl 8 (by decide) (hts _ (kcm kwm_270)) (fun _ h9 => h9) rfl dX5_put_32 ?_
              refine lv_aload_n hx hb dX5_put_35 rfl (lv_at hl 2 rfl) ?_
              refine va_get (D := (dC, dI)) (ci := 5) (v := .int (nI (wr + 1))) (C := RX5) (T := TX5) (N := 16) hx hb hts kin_5 hown hK hP 0 rfl rfl 9 (by decide) (hts _ (kcm kwm_271)) (fun _ h9 => h9) rfl dX5_put_36 ?_
              refine lv_bipush (v := 48) hx hb dX5_put_39 (by decide) ?_
              refine lv_iload_n hx hb dX5_put_41 rfl (lv_at hl 3 rfl) ?_
              refine lv_iload_n hx hb dX5_put_42 rfl (lv_at hl 1 rfl) ?_
              refine lv_idiv hx hb dX5_put_43 (by decide) ?_
              refine lv_bipush (v := 10) hx hb dX5_put_44 (by decide) ?_
              refine lv_irem hx hb dX5_put_46 (by decide) ?_
              refine lv_iadd hx hb dX5_put_47 ?_
              refine va_iast hx hb hK hP hD hS 1 0 rfl rfl (vp_in_nI (by omega) (by decide)) dX5_put_48 (fun H locs hP hD hS => ?_)
              rw [show (nI (wr + 1)).toNatClampNeg = (wr + 1) from nI_clamp (by omega)] at hP hD
              have hP : va_P (dC, dI) kcl [(q, .inr (5, [.int th, .ref tx, .int (nI mz), .int fl, .int (bI it), .long al, .ref pt, .int (nI dg), .ref ot, .int (nI (wr + 1)), .int (nI kz), .ref ka, .ref kd, .ref kp, .int (nI ma), .int (bI wg)])), (ot, .inl (c3, 256, .inl (upd (upd U wr (48 + ((v / 1000) - (v / 1000) / 10 * 10))) (wr + 1) (48 + ((v / 100) - (v / 100) / 10 * 10)))))] H := hP
              have hD : va_D A [(q, .inr (5, [.int th, .ref tx, .int (nI mz), .int fl, .int (bI it), .long al, .ref pt, .int (nI dg), .ref ot, .int (nI (wr + 1)), .int (nI kz), .ref ka, .ref kd, .ref kp, .int (nI ma), .int (bI wg)])), (ot, .inl (c3, 256, .inl (upd (upd U wr (48 + ((v / 1000) - (v / 1000) / 10 * 10))) (wr + 1) (48 + ((v / 100) - (v / 100) / 10 * 10)))))] := hD
              refine lv_aload_n hx hb dX5_put_49 rfl (lv_at hl 2 rfl) ?_
              refine lv_dup hx hb dX5_put_50 rfl ?_
              refine va_get (D := (dC, dI)) (ci := 5) (v := .int (nI (wr + 1))) (C := RX5) (T := TX5) (N := 16) hx hb hts kin_5 hown hK hP 0 rfl rfl 9 (by decide) (hts _ (kcm kwm_271)) (fun _ h9 => h9) rfl dX5_put_51 ?_
              refine lv_iconst (v := 1) hx hb dX5_put_54 (by decide) ?_
              refine lv_iadd hx hb dX5_put_55 ?_
              rw [show (nI (wr + 1)) + 1 = nI ((wr + 1) + 1) from nI_add (wr + 1) 1]
              refine va_put (D := (dC, dI)) (ci := 5) (v := .int (nI ((wr + 1) + 1))) (ty := .int) (C := RX5) (T := TX5) (N := 16) hx hb hts kin_5 tyX5 tyX5_ok nmX5 hown hK hP hD hS 0 rfl rfl 9 (by decide) (hts _ (kcm kwm_271)) (fun _ h9 => h9) rfl (by decide +kernel) rfl rfl (Nat.le_of_ble_eq_true rfl) dX5_put_56 (fun H locs hP hD hS => ?_)
              have hP : va_P (dC, dI) kcl [(q, .inr (5, [.int th, .ref tx, .int (nI mz), .int fl, .int (bI it), .long al, .ref pt, .int (nI dg), .ref ot, .int (nI ((wr + 1) + 1)), .int (nI kz), .ref ka, .ref kd, .ref kp, .int (nI ma), .int (bI wg)])), (ot, .inl (c3, 256, .inl (upd (upd U wr (48 + ((v / 1000) - (v / 1000) / 10 * 10))) (wr + 1) (48 + ((v / 100) - (v / 100) / 10 * 10)))))] H := hP
              have hD : va_D A [(q, .inr (5, [.int th, .ref tx, .int (nI mz), .int fl, .int (bI it), .long al, .ref pt, .int (nI dg), .ref ot, .int (nI ((wr + 1) + 1)), .int (nI kz), .ref ka, .ref kd, .ref kp, .int (nI ma), .int (bI wg)])), (ot, .inl (c3, 256, .inl (upd (upd U wr (48 + ((v / 1000) - (v / 1000) / 10 * 10))) (wr + 1) (48 + ((v / 100) - (v / 100) / 10 * 10)))))] := hD
              refine lv_iload_n hx hb dX5_put_59 rfl (lv_at hl 1 rfl) ?_
              refine lv_bipush (v := 10) hx hb dX5_put_60 (by decide) ?_
              refine lv_idiv hx hb dX5_put_62 (by decide) ?_
              rw [show ((100 : Int32) / 10) = 10 from by decide]
              refine lv_istore_n (lv' := [(3, .int 10), (4, .int 1), (0, .ref q), (1, .int v), (2, .int 4)]) hx hb dX5_put_63 rfl hl (by decide) rfl (fun ls hl => ?_)
              refine lv_iinc (v := 2) (lv' := [(4, .int 2), (3, .int 10), (0, .ref q), (1, .int v), (2, .int 4)]) hx hb dX5_put_64 hl (k := 1) rfl (by decide) (by decide) rfl (fun ls hl => ?_)
              refine lv_goto (tgt := 25) hx hb dX5_put_67 (by decide) ?_
              refine lv_iload hx hb dX5_put_25 (lv_at hl 0 rfl) ?_
              refine lv_iload_n hx hb dX5_put_27 rfl (lv_at hl 4 rfl) ?_
              refine lv_icmp_ge (tgt := 70) hx hb dX5_put_28 (by decide) (fun c_28 => ?_) (fun c_28 => ?_)
              · exact absurd c_28 (by decide)
              · refine lv_aload_n hx hb dX5_put_31 rfl (lv_at hl 2 rfl) ?_
                refine va_get (D := (dC, dI)) (ci := 5) (v := .ref ot) (C := RX5) (T := TX5) (N := 16) hx hb hts kin_5 hown hK hP 0 rfl rfl 8 (by decide) (hts _ (kcm kwm_270)) (fun _ h9 => h9) rfl dX5_put_32 ?_
                refine lv_aload_n hx hb dX5_put_35 rfl (lv_at hl 2 rfl) ?_
                refine va_get (D := (dC, dI)) (ci := 5) (v := .int (nI ((wr + 1) + 1))) (C := RX5) (T := TX5) (N := 16) hx hb hts kin_5 hown hK hP 0 rfl rfl 9 (by decide) (hts _ (kcm kwm_271)) (fun _ h9 => h9) rfl dX5_put_36 ?_
                refine lv_bipush (v := 48) hx hb dX5_put_39 (by decide) ?_
                refine lv_iload_n hx hb dX5_put_41 rfl (lv_at hl 3 rfl) ?_
                refine lv_iload_n hx hb dX5_put_42 rfl (lv_at hl 1 rfl) ?_
                refine lv_idiv hx hb dX5_put_43 (by decide) ?_
                refine lv_bipush (v := 10) hx hb dX5_put_44 (by decide) ?_
                refine lv_irem hx hb dX5_put_46 (by decide) ?_
                refine lv_iadd hx hb dX5_put_47 ?_
                refine va_iast hx hb hK hP hD hS 1 0 rfl rfl (vp_in_nI (by omega) (by decide)) dX5_put_48 (fun H locs hP hD hS => ?_)
                rw [show (nI ((wr + 1) + 1)).toNatClampNeg = ((wr + 1) + 1) from nI_clamp (by omega)] at hP hD
                have hP : va_P (dC, dI) kcl [(q, .inr (5, [.int th, .ref tx, .int (nI mz), .int fl, .int (bI it), .long al, .ref pt, .int (nI dg), .ref ot, .int (nI ((wr + 1) + 1)), .int (nI kz), .ref ka, .ref kd, .ref kp, .int (nI ma), .int (bI wg)])), (ot, .inl (c3, 256, .inl (upd (upd (upd U wr (48 + ((v / 1000) - (v / 1000) / 10 * 10))) (wr + 1) (48 + ((v / 100) - (v / 100) / 10 * 10))) ((wr + 1) + 1) (48 + ((v / 10) - (v / 10) / 10 * 10)))))] H := hP
                have hD : va_D A [(q, .inr (5, [.int th, .ref tx, .int (nI mz), .int fl, .int (bI it), .long al, .ref pt, .int (nI dg), .ref ot, .int (nI ((wr + 1) + 1)), .int (nI kz), .ref ka, .ref kd, .ref kp, .int (nI ma), .int (bI wg)])), (ot, .inl (c3, 256, .inl (upd (upd (upd U wr (48 + ((v / 1000) - (v / 1000) / 10 * 10))) (wr + 1) (48 + ((v / 100) - (v / 100) / 10 * 10))) ((wr + 1) + 1) (48 + ((v / 10) - (v / 10) / 10 * 10)))))] := hD
                refine lv_aload_n hx hb dX5_put_49 rfl (lv_at hl 2 rfl) ?_
                refine lv_dup hx hb dX5_put_50 rfl ?_
                refine va_get (D := (dC, dI)) (ci := 5) (v := .int (nI ((wr + 1) + 1))) (C := RX5) (T := TX5) (N := 16) hx hb hts kin_5 hown hK hP 0 rfl rfl 9 (by decide) (hts _ (kcm kwm_271)) (fun _ h9 => h9) rfl dX5_put_51 ?_
                refine lv_iconst (v := 1) hx hb dX5_put_54 (by decide) ?_
                refine lv_iadd hx hb dX5_put_55 ?_
                rw [show (nI ((wr + 1) + 1)) + 1 = nI (((wr + 1) + 1) + 1) from nI_add ((wr + 1) + 1) 1]
                refine va_put (D := (dC, dI)) (ci := 5) (v := .int (nI (((wr + 1) + 1) + 1))) (ty := .int) (C := RX5) (T := TX5) (N := 16) hx hb hts kin_5 tyX5 tyX5_ok nmX5 hown hK hP hD hS 0 rfl rfl 9 (by decide) (hts _ (kcm kwm_271)) (fun _ h9 => h9) rfl (by decide +kernel) rfl rfl (Nat.le_of_ble_eq_true rfl) dX5_put_56 (fun H locs hP hD hS => ?_)
                have hP : va_P (dC, dI) kcl [(q, .inr (5, [.int th, .ref tx, .int (nI mz), .int fl, .int (bI it), .long al, .ref pt, .int (nI dg), .ref ot, .int (nI (((wr + 1) + 1) + 1)), .int (nI kz), .ref ka, .ref kd, .ref kp, .int (nI ma), .int (bI wg)])), (ot, .inl (c3, 256, .inl (upd (upd (upd U wr (48 + ((v / 1000) - (v / 1000) / 10 * 10))) (wr + 1) (48 + ((v / 100) - (v / 100) / 10 * 10))) ((wr + 1) + 1) (48 + ((v / 10) - (v / 10) / 10 * 10)))))] H := hP
                have hD : va_D A [(q, .inr (5, [.int th, .ref tx, .int (nI mz), .int fl, .int (bI it), .long al, .ref pt, .int (nI dg), .ref ot, .int (nI (((wr + 1) + 1) + 1)), .int (nI kz), .ref ka, .ref kd, .ref kp, .int (nI ma), .int (bI wg)])), (ot, .inl (c3, 256, .inl (upd (upd (upd U wr (48 + ((v / 1000) - (v / 1000) / 10 * 10))) (wr + 1) (48 + ((v / 100) - (v / 100) / 10 * 10))) ((wr + 1) + 1) (48 + ((v / 10) - (v / 10) / 10 * 10)))))] := hD
                refine lv_iload_n hx hb dX5_put_59 rfl (lv_at hl 1 rfl) ?_
                refine lv_bipush (v := 10) hx hb dX5_put_60 (by decide) ?_
                refine lv_idiv hx hb dX5_put_62 (by decide) ?_
                rw [show ((10 : Int32) / 10) = 1 from by decide]
                refine lv_istore_n (lv' := [(3, .int 1), (4, .int 2), (0, .ref q), (1, .int v), (2, .int 4)]) hx hb dX5_put_63 rfl hl (by decide) rfl (fun ls hl => ?_)
                refine lv_iinc (v := 3) (lv' := [(4, .int 3), (3, .int 1), (0, .ref q), (1, .int v), (2, .int 4)]) hx hb dX5_put_64 hl (k := 1) rfl (by decide) (by decide) rfl (fun ls hl => ?_)
                refine lv_goto (tgt := 25) hx hb dX5_put_67 (by decide) ?_
                refine lv_iload hx hb dX5_put_25 (lv_at hl 0 rfl) ?_
                refine lv_iload_n hx hb dX5_put_27 rfl (lv_at hl 4 rfl) ?_
                refine lv_icmp_ge (tgt := 70) hx hb dX5_put_28 (by decide) (fun c_28 => ?_) (fun c_28 => ?_)
                · exact absurd c_28 (by decide)
                · refine lv_aload_n hx hb dX5_put_31 rfl (lv_at hl 2 rfl) ?_
                  refine va_get (D := (dC, dI)) (ci := 5) (v := .ref ot) (C := RX5) (T := TX5) (N := 16) hx hb hts kin_5 hown hK hP 0 rfl rfl 8 (by decide) (hts _ (kcm kwm_270)) (fun _ h9 => h9) rfl dX5_put_32 ?_
                  refine lv_aload_n hx hb dX5_put_35 rfl (lv_at hl 2 rfl) ?_
                  refine va_get (D := (dC, dI)) (ci := 5) (v := .int (nI (((wr + 1) + 1) + 1))) (C := RX5) (T := TX5) (N := 16) hx hb hts kin_5 hown hK hP 0 rfl rfl 9 (by decide) (hts _ (kcm kwm_271)) (fun _ h9 => h9) rfl dX5_put_36 ?_
                  refine lv_bipush (v := 48) hx hb dX5_put_39 (by decide) ?_
                  refine lv_iload_n hx hb dX5_put_41 rfl (lv_at hl 3 rfl) ?_
                  refine lv_iload_n hx hb dX5_put_42 rfl (lv_at hl 1 rfl) ?_
                  refine lv_idiv hx hb dX5_put_43 (by decide) ?_
                  refine lv_bipush (v := 10) hx hb dX5_put_44 (by decide) ?_
                  refine lv_irem hx hb dX5_put_46 (by decide) ?_
                  refine lv_iadd hx hb dX5_put_47 ?_
                  refine va_iast hx hb hK hP hD hS 1 0 rfl rfl (vp_in_nI (by omega) (by decide)) dX5_put_48 (fun H locs hP hD hS => ?_)
                  rw [show (nI (((wr + 1) + 1) + 1)).toNatClampNeg = (((wr + 1) + 1) + 1) from nI_clamp (by omega)] at hP hD
                  have hP : va_P (dC, dI) kcl [(q, .inr (5, [.int th, .ref tx, .int (nI mz), .int fl, .int (bI it), .long al, .ref pt, .int (nI dg), .ref ot, .int (nI (((wr + 1) + 1) + 1)), .int (nI kz), .ref ka, .ref kd, .ref kp, .int (nI ma), .int (bI wg)])), (ot, .inl (c3, 256, .inl (upd (upd (upd (upd U wr (48 + ((v / 1000) - (v / 1000) / 10 * 10))) (wr + 1) (48 + ((v / 100) - (v / 100) / 10 * 10))) ((wr + 1) + 1) (48 + ((v / 10) - (v / 10) / 10 * 10))) (((wr + 1) + 1) + 1) (48 + ((v / 1) - (v / 1) / 10 * 10)))))] H := hP
                  have hD : va_D A [(q, .inr (5, [.int th, .ref tx, .int (nI mz), .int fl, .int (bI it), .long al, .ref pt, .int (nI dg), .ref ot, .int (nI (((wr + 1) + 1) + 1)), .int (nI kz), .ref ka, .ref kd, .ref kp, .int (nI ma), .int (bI wg)])), (ot, .inl (c3, 256, .inl (upd (upd (upd (upd U wr (48 + ((v / 1000) - (v / 1000) / 10 * 10))) (wr + 1) (48 + ((v / 100) - (v / 100) / 10 * 10))) ((wr + 1) + 1) (48 + ((v / 10) - (v / 10) / 10 * 10))) (((wr + 1) + 1) + 1) (48 + ((v / 1) - (v / 1) / 10 * 10)))))] := hD
                  refine lv_aload_n hx hb dX5_put_49 rfl (lv_at hl 2 rfl) ?_
                  refine lv_dup hx hb dX5_put_50 rfl ?_
                  refine va_get (D := (dC, dI)) (ci := 5) (v := .int (nI (((wr + 1) + 1) + 1))) (C := RX5) (T := TX5) (N := 16) hx hb hts kin_5 hown hK hP 0 rfl rfl 9 (by decide) (hts _ (kcm kwm_271)) (fun _ h9 => h9) rfl dX5_put_51 ?_
                  refine lv_iconst (v := 1) hx hb dX5_put_54 (by decide) ?_
                  refine lv_iadd hx hb dX5_put_55 ?_
                  rw [show (nI (((wr + 1) + 1) + 1)) + 1 = nI ((((wr + 1) + 1) + 1) + 1) from nI_add (((wr + 1) + 1) + 1) 1]
                  refine va_put (D := (dC, dI)) (ci := 5) (v := .int (nI ((((wr + 1) + 1) + 1) + 1))) (ty := .int) (C := RX5) (T := TX5) (N := 16) hx hb hts kin_5 tyX5 tyX5_ok nmX5 hown hK hP hD hS 0 rfl rfl 9 (by decide) (hts _ (kcm kwm_271)) (fun _ h9 => h9) rfl (by decide +kernel) rfl rfl (Nat.le_of_ble_eq_true rfl) dX5_put_56 (fun H locs hP hD hS => ?_)
                  have hP : va_P (dC, dI) kcl [(q, .inr (5, [.int th, .ref tx, .int (nI mz), .int fl, .int (bI it), .long al, .ref pt, .int (nI dg), .ref ot, .int (nI ((((wr + 1) + 1) + 1) + 1)), .int (nI kz), .ref ka, .ref kd, .ref kp, .int (nI ma), .int (bI wg)])), (ot, .inl (c3, 256, .inl (upd (upd (upd (upd U wr (48 + ((v / 1000) - (v / 1000) / 10 * 10))) (wr + 1) (48 + ((v / 100) - (v / 100) / 10 * 10))) ((wr + 1) + 1) (48 + ((v / 10) - (v / 10) / 10 * 10))) (((wr + 1) + 1) + 1) (48 + ((v / 1) - (v / 1) / 10 * 10)))))] H := hP
                  have hD : va_D A [(q, .inr (5, [.int th, .ref tx, .int (nI mz), .int fl, .int (bI it), .long al, .ref pt, .int (nI dg), .ref ot, .int (nI ((((wr + 1) + 1) + 1) + 1)), .int (nI kz), .ref ka, .ref kd, .ref kp, .int (nI ma), .int (bI wg)])), (ot, .inl (c3, 256, .inl (upd (upd (upd (upd U wr (48 + ((v / 1000) - (v / 1000) / 10 * 10))) (wr + 1) (48 + ((v / 100) - (v / 100) / 10 * 10))) ((wr + 1) + 1) (48 + ((v / 10) - (v / 10) / 10 * 10))) (((wr + 1) + 1) + 1) (48 + ((v / 1) - (v / 1) / 10 * 10)))))] := hD
                  refine lv_iload_n hx hb dX5_put_59 rfl (lv_at hl 1 rfl) ?_
                  refine lv_bipush (v := 10) hx hb dX5_put_60 (by decide) ?_
                  refine lv_idiv hx hb dX5_put_62 (by decide) ?_
                  rw [show ((1 : Int32) / 10) = 0 from by decide]
                  refine lv_istore_n (lv' := [(3, .int 0), (4, .int 3), (0, .ref q), (1, .int v), (2, .int 4)]) hx hb dX5_put_63 rfl hl (by decide) rfl (fun ls hl => ?_)
                  refine lv_iinc (v := 4) (lv' := [(4, .int 4), (3, .int 0), (0, .ref q), (1, .int v), (2, .int 4)]) hx hb dX5_put_64 hl (k := 1) rfl (by decide) (by decide) rfl (fun ls hl => ?_)
                  refine lv_goto (tgt := 25) hx hb dX5_put_67 (by decide) ?_
                  refine lv_iload hx hb dX5_put_25 (lv_at hl 0 rfl) ?_
                  refine lv_iload_n hx hb dX5_put_27 rfl (lv_at hl 4 rfl) ?_
                  refine lv_icmp_ge (tgt := 70) hx hb dX5_put_28 (by decide) (fun c_28 => ?_) (fun c_28 => ?_)
                  · have hF9 : mPut4 U wr v = (upd (upd (upd (upd U wr (48 + ((v / 1000) - (v / 1000) / 10 * 10))) (wr + 1) (48 + ((v / 100) - (v / 100) / 10 * 10))) ((wr + 1) + 1) (48 + ((v / 10) - (v / 10) / 10 * 10))) (((wr + 1) + 1) + 1) (48 + ((v / 1) - (v / 1) / 10 * 10)), ((((wr + 1) + 1) + 1) + 1)) := by
                      first | (simp only [mPut4]; done) | rfl
                    have hP9 : va_P (dC, dI) kcl [(q, .inr (5, [.int th, .ref tx, .int (nI mz), .int fl, .int (bI it), .long al, .ref pt, .int (nI dg), .ref ot, .int (nI (mPut4 U wr v).2), .int (nI kz), .ref ka, .ref kd, .ref kp, .int (nI ma), .int (bI wg)])), (ot, .inl (c3, 256, .inl (mPut4 U wr v).1))] H := by
                      try rw [hF9]
                      exact hP.sub [0, 1] rfl
                    have hD9 : va_D A [(q, .inr (5, [.int th, .ref tx, .int (nI mz), .int fl, .int (bI it), .long al, .ref pt, .int (nI dg), .ref ot, .int (nI (mPut4 U wr v).2), .int (nI kz), .ref ka, .ref kd, .ref kp, .int (nI ma), .int (bI wg)])), (ot, .inl (c3, 256, .inl (mPut4 U wr v).1))] := by
                      try rw [hF9]
                      exact hD.sub [0, 1] (by decide) rfl
                    exact kc_vret hx hb hr hlocks hP9 hD9 hS dX5_put_70
                  · exact absurd (by decide) c_28
        · exact absurd (by decide) c_8
def mUnit (al : Int64) (dg : Nat) (p1 : Int32) : Int32 :=
  if p1 = 0 then
    yrF (mDay al)
  else
    if p1 = 1 then
      moF al
    else
      if p1 = 2 then
        ((mDay al) - (mDayOf (yrF (mDay al)) (moF al) 1)) + 1
      else
        if p1 = 3 then
          (al - al / 86400 * 86400).toInt32 / 3600
        else
          if p1 = 4 then
            ((al - al / 86400 * 86400).toInt32 / 60) - ((al - al / 86400 * 86400).toInt32 / 60) / 60 * 60
          else
            if p1 = 5 then
              (al - al / 86400 * 86400).toInt32 - (al - al / 86400 * 86400).toInt32 / 60 * 60
            else
              if p1 = 6 then
                nI dg
              else
                ((mDay al) + 5) - ((mDay al) + 5) / 7 * 7
set_option maxHeartbeats 4000000 in
set_option maxRecDepth 100000 in
theorem m_unitOf (l : Launch) (dC : Nat → ClassId) (dI : Nat → Nat → Nat) (st sz : Nat) (q : Nat) (th : Int32) (tx : Nat) (mz : Nat) (fl : Int32) (it : Bool) (al : Int64) (pt : Nat) (dg : Nat) (ot : Nat) (wr : Nat) (kz : Nat) (ka : Nat) (kd : Nat) (kp : Nat) (ma : Nat) (wg : Bool) (p1 : Int32) (hY : (yrL (mDay al) 10100 (mDay al / 366)).isSome = true) (hM : (moL (yrF (mDay al)) 13 (mDay al - mTo (yrF (mDay al))) 1).isSome = true) (hM2 : moF al ≤ 12) : Met l yX5_unitOf wsX5_unitOf ({ frames := 3, cells := 0, slots := 0, locals := 65 }) (kc_Pc (dC, dI) kcl st sz [.ref q, .int p1] [(q, .inr (5, [.int th, .ref tx, .int (nI mz), .int fl, .int (bI it), .long al, .ref pt, .int (nI dg), .ref ot, .int (nI wr), .int (nI kz), .ref ka, .ref kd, .ref kp, .int (nI ma), .int (bI wg)]))] []) (vp_Si (fun r => r = mUnit al dg p1)) 0 0 (fun _ => False) := by
  refine kc_ofS (cc := cX5_unitOf) (maxL := 3) (ret := (some .int)) (by decide) rfl (Nat.le_of_ble_eq_true rfl) ?_
  intro p e s m below meth c A ls Cx hA hG hK hP hD hS hl
  obtain ⟨hx, hb, hr, hml, hown, hts, hlocks, hnm⟩ := id Cx
  have hl : lv_has ls 3 [(0, .ref q), (1, .int p1)] := hl
  refine lv_aload_n hx hb dX5_unitOf_0 rfl (lv_at hl 0 rfl) ?_
  refine va_get (D := (dC, dI)) (ci := 5) (v := .long al) (C := RX5) (T := TX5) (N := 16) hx hb hts kin_5 hown hK hP 0 rfl rfl 5 (by decide) (hts _ (kcm kwm_217)) (fun _ h9 => h9) rfl dX5_unitOf_1 ?_
  refine lv_ldc2 (own := RX5) (v := 86400) hx hb hown (hts _ (kcm kwm_218)) dX5_unitOf_4 ?_
  refine lv_lrem hx hb dX5_unitOf_7 (by decide) ?_
  refine lv_l2i (v := (al - al / 86400 * 86400).toInt32) hx hb dX5_unitOf_8 rfl ?_
  refine lv_istore_n (lv' := [(2, .int (al - al / 86400 * 86400).toInt32), (0, .ref q), (1, .int p1)]) hx hb dX5_unitOf_9 rfl hl (by decide) rfl (fun ls hl => ?_)
  refine lv_iload_n hx hb dX5_unitOf_10 rfl (lv_at hl 2 rfl) ?_
  by_cases c_11_0 : p1 = 0
  · refine lv_tableIn (off := 41) (tgt := 52) hx hb dX5_unitOf_11 (by rw [c_11_0]; decide) (by rw [c_11_0]; decide) (by rw [c_11_0]; rfl) (by decide) ?_
    refine lv_aload_n hx hb dX5_unitOf_52 rfl (lv_at hl 1 rfl) ?_
    have hPc := hP.sub (ws' := [(q, .inr (5, [.int th, .ref tx, .int (nI mz), .int fl, .int (bI it), .long al, .ref pt, .int (nI dg), .ref ot, .int (nI wr), .int (nI kz), .ref ka, .ref kd, .ref kp, .int (nI ma), .int (bI wg)]))]) [0] rfl
    have hDc := hD.sub (ws' := [(q, .inr (5, [.int th, .ref tx, .int (nI mz), .int fl, .int (bI it), .long al, .ref pt, .int (nI dg), .ref ot, .int (nI wr), .int (nI kz), .ref ka, .ref kd, .ref kp, .int (nI ma), .int (bI wg)]))]) [0] (by decide) rfl
    have hKc := hK.sub (tys' := []) [] rfl
    have hFc := va_free (wc := [(q, .inr (5, [.int th, .ref tx, .int (nI mz), .int fl, .int (bI it), .long al, .ref pt, .int (nI dg), .ref ot, .int (nI wr), .int (nI kz), .ref ka, .ref kd, .ref kp, .int (nI ma), .int (bI wg)]))]) hD hS hA [0] rfl
    refine kc_callSi (val := mDay al) (va_runV (As := []) (rest := []) ⟨hx, hb, hml, hown, hts⟩ (m_dayNow l dC dI st s.heap.size q th tx mz fl it al pt dg ot wr kz ka kd kp ma wg ) (cwV 0 hts (kwV kwm_220 kwm_221 kwm_222 kwm_203 kwm_219) rfl rfl rfl (by decide +kernel) ⟨Nat.le_of_ble_eq_true rfl, Nat.le_of_ble_eq_true rfl⟩) ⟨kc_blind, va_recv hKc hPc (ci := 5) (q0 := 0) rfl rfl, kc_pre hG hS hFc hKc hPc hDc⟩ rfl rfl hl.1 rfl (lv_room (Nat.le_of_ble_eq_true rfl)) dX5_unitOf_53 ⟨Nat.le_of_ble_eq_true rfl, Nat.le_of_ble_eq_true rfl⟩) ?_
    have hPc := hP.sub (ws' := []) [] rfl
    have hDc := hD.sub (ws' := []) [] (by decide) rfl
    have hKc := hK.sub (tys' := []) [] rfl
    have hFc := va_free (wc := []) hD hS hA [] rfl
    refine kc_callSi (val := yrF (mDay al)) (va_runS (As := [.int (mDay al)]) (rest := []) ⟨hx, hb, hml, hown, hts⟩ (m_yearOf l dC dI st s.heap.size (mDay al) hY) (va_cwS 1 hts (kwS kwm_224 kwm_225 kwm_203 kwm_223) rfl rfl rfl (by decide +kernel) ⟨Nat.le_of_ble_eq_true rfl, Nat.le_of_ble_eq_true rfl⟩) ⟨kc_blind, kc_pre hG hS hFc hKc hPc hDc⟩ rfl rfl hl.1 rfl (lv_room (Nat.le_of_ble_eq_true rfl)) dX5_unitOf_56 ⟨Nat.le_of_ble_eq_true rfl, Nat.le_of_ble_eq_true rfl⟩) ?_
    have hF9 : mUnit al dg p1 = yrF (mDay al) := by
      first | (simp only [mUnit, if_pos c_11_0]; done) | rfl
    have hv9 : yrF (mDay al) = mUnit al dg p1 := by
      try rw [hF9]
      try rfl
    exact kc_Siret hx hb hr hlocks hv9 dX5_unitOf_59
  · by_cases c_11_1 : p1 = 1
    · refine lv_tableIn (off := 49) (tgt := 60) hx hb dX5_unitOf_11 (by rw [c_11_1]; decide) (by rw [c_11_1]; decide) (by rw [c_11_1]; rfl) (by decide) ?_
      refine lv_aload_n hx hb dX5_unitOf_60 rfl (lv_at hl 1 rfl) ?_
      have hPc := hP.sub (ws' := [(q, .inr (5, [.int th, .ref tx, .int (nI mz), .int fl, .int (bI it), .long al, .ref pt, .int (nI dg), .ref ot, .int (nI wr), .int (nI kz), .ref ka, .ref kd, .ref kp, .int (nI ma), .int (bI wg)]))]) [0] rfl
      have hDc := hD.sub (ws' := [(q, .inr (5, [.int th, .ref tx, .int (nI mz), .int fl, .int (bI it), .long al, .ref pt, .int (nI dg), .ref ot, .int (nI wr), .int (nI kz), .ref ka, .ref kd, .ref kp, .int (nI ma), .int (bI wg)]))]) [0] (by decide) rfl
      have hKc := hK.sub (tys' := []) [] rfl
      have hFc := va_free (wc := [(q, .inr (5, [.int th, .ref tx, .int (nI mz), .int fl, .int (bI it), .long al, .ref pt, .int (nI dg), .ref ot, .int (nI wr), .int (nI kz), .ref ka, .ref kd, .ref kp, .int (nI ma), .int (bI wg)]))]) hD hS hA [0] rfl
      refine kc_callSi (val := moF al) (va_runV (As := []) (rest := []) ⟨hx, hb, hml, hown, hts⟩ (m_monthNow l dC dI st s.heap.size q th tx mz fl it al pt dg ot wr kz ka kd kp ma wg hY hM) (cwV 0 hts (kwV kwm_266 kwm_267 kwm_268 kwm_203 kwm_265) rfl rfl rfl (by decide +kernel) ⟨Nat.le_of_ble_eq_true rfl, Nat.le_of_ble_eq_true rfl⟩) ⟨kc_blind, va_recv hKc hPc (ci := 5) (q0 := 0) rfl rfl, kc_pre hG hS hFc hKc hPc hDc⟩ rfl rfl hl.1 rfl (lv_room (Nat.le_of_ble_eq_true rfl)) dX5_unitOf_61 ⟨Nat.le_of_ble_eq_true rfl, Nat.le_of_ble_eq_true rfl⟩) ?_
      have hF9 : mUnit al dg p1 = moF al := by
        first | (simp only [mUnit, if_neg c_11_0, if_pos c_11_1]; done) | rfl
      have hv9 : moF al = mUnit al dg p1 := by
        try rw [hF9]
        try rfl
      exact kc_Siret hx hb hr hlocks hv9 dX5_unitOf_64
    · by_cases c_11_2 : p1 = 2
      · refine lv_tableIn (off := 54) (tgt := 65) hx hb dX5_unitOf_11 (by rw [c_11_2]; decide) (by rw [c_11_2]; decide) (by rw [c_11_2]; rfl) (by decide) ?_
        refine lv_aload_n hx hb dX5_unitOf_65 rfl (lv_at hl 1 rfl) ?_
        have hPc := hP.sub (ws' := [(q, .inr (5, [.int th, .ref tx, .int (nI mz), .int fl, .int (bI it), .long al, .ref pt, .int (nI dg), .ref ot, .int (nI wr), .int (nI kz), .ref ka, .ref kd, .ref kp, .int (nI ma), .int (bI wg)]))]) [0] rfl
        have hDc := hD.sub (ws' := [(q, .inr (5, [.int th, .ref tx, .int (nI mz), .int fl, .int (bI it), .long al, .ref pt, .int (nI dg), .ref ot, .int (nI wr), .int (nI kz), .ref ka, .ref kd, .ref kp, .int (nI ma), .int (bI wg)]))]) [0] (by decide) rfl
        have hKc := hK.sub (tys' := []) [] rfl
        have hFc := va_free (wc := [(q, .inr (5, [.int th, .ref tx, .int (nI mz), .int fl, .int (bI it), .long al, .ref pt, .int (nI dg), .ref ot, .int (nI wr), .int (nI kz), .ref ka, .ref kd, .ref kp, .int (nI ma), .int (bI wg)]))]) hD hS hA [0] rfl
        refine kc_callSi (val := mDay al) (va_runV (As := []) (rest := []) ⟨hx, hb, hml, hown, hts⟩ (m_dayNow l dC dI st s.heap.size q th tx mz fl it al pt dg ot wr kz ka kd kp ma wg ) (cwV 0 hts (kwV kwm_220 kwm_221 kwm_222 kwm_203 kwm_219) rfl rfl rfl (by decide +kernel) ⟨Nat.le_of_ble_eq_true rfl, Nat.le_of_ble_eq_true rfl⟩) ⟨kc_blind, va_recv hKc hPc (ci := 5) (q0 := 0) rfl rfl, kc_pre hG hS hFc hKc hPc hDc⟩ rfl rfl hl.1 rfl (lv_room (Nat.le_of_ble_eq_true rfl)) dX5_unitOf_66 ⟨Nat.le_of_ble_eq_true rfl, Nat.le_of_ble_eq_true rfl⟩) ?_
        refine lv_aload_n hx hb dX5_unitOf_69 rfl (lv_at hl 1 rfl) ?_
        have hPc := hP.sub (ws' := [(q, .inr (5, [.int th, .ref tx, .int (nI mz), .int fl, .int (bI it), .long al, .ref pt, .int (nI dg), .ref ot, .int (nI wr), .int (nI kz), .ref ka, .ref kd, .ref kp, .int (nI ma), .int (bI wg)]))]) [0] rfl
        have hDc := hD.sub (ws' := [(q, .inr (5, [.int th, .ref tx, .int (nI mz), .int fl, .int (bI it), .long al, .ref pt, .int (nI dg), .ref ot, .int (nI wr), .int (nI kz), .ref ka, .ref kd, .ref kp, .int (nI ma), .int (bI wg)]))]) [0] (by decide) rfl
        have hKc := hK.sub (tys' := []) [] rfl
        have hFc := va_free (wc := [(q, .inr (5, [.int th, .ref tx, .int (nI mz), .int fl, .int (bI it), .long al, .ref pt, .int (nI dg), .ref ot, .int (nI wr), .int (nI kz), .ref ka, .ref kd, .ref kp, .int (nI ma), .int (bI wg)]))]) hD hS hA [0] rfl
        refine kc_callSi (val := mDay al) (va_runV (As := []) (rest := [.int (mDay al)]) ⟨hx, hb, hml, hown, hts⟩ (m_dayNow l dC dI st s.heap.size q th tx mz fl it al pt dg ot wr kz ka kd kp ma wg ) (cwV 0 hts (kwV kwm_220 kwm_221 kwm_222 kwm_203 kwm_219) rfl rfl rfl (by decide +kernel) ⟨Nat.le_of_ble_eq_true rfl, Nat.le_of_ble_eq_true rfl⟩) ⟨kc_blind, va_recv hKc hPc (ci := 5) (q0 := 0) rfl rfl, kc_pre hG hS hFc hKc hPc hDc⟩ rfl rfl hl.1 rfl (lv_room (Nat.le_of_ble_eq_true rfl)) dX5_unitOf_70 ⟨Nat.le_of_ble_eq_true rfl, Nat.le_of_ble_eq_true rfl⟩) ?_
        have hPc := hP.sub (ws' := []) [] rfl
        have hDc := hD.sub (ws' := []) [] (by decide) rfl
        have hKc := hK.sub (tys' := []) [] rfl
        have hFc := va_free (wc := []) hD hS hA [] rfl
        refine kc_callSi (val := yrF (mDay al)) (va_runS (As := [.int (mDay al)]) (rest := [.int (mDay al)]) ⟨hx, hb, hml, hown, hts⟩ (m_yearOf l dC dI st s.heap.size (mDay al) hY) (va_cwS 1 hts (kwS kwm_224 kwm_225 kwm_203 kwm_223) rfl rfl rfl (by decide +kernel) ⟨Nat.le_of_ble_eq_true rfl, Nat.le_of_ble_eq_true rfl⟩) ⟨kc_blind, kc_pre hG hS hFc hKc hPc hDc⟩ rfl rfl hl.1 rfl (lv_room (Nat.le_of_ble_eq_true rfl)) dX5_unitOf_73 ⟨Nat.le_of_ble_eq_true rfl, Nat.le_of_ble_eq_true rfl⟩) ?_
        refine lv_aload_n hx hb dX5_unitOf_76 rfl (lv_at hl 1 rfl) ?_
        have hPc := hP.sub (ws' := [(q, .inr (5, [.int th, .ref tx, .int (nI mz), .int fl, .int (bI it), .long al, .ref pt, .int (nI dg), .ref ot, .int (nI wr), .int (nI kz), .ref ka, .ref kd, .ref kp, .int (nI ma), .int (bI wg)]))]) [0] rfl
        have hDc := hD.sub (ws' := [(q, .inr (5, [.int th, .ref tx, .int (nI mz), .int fl, .int (bI it), .long al, .ref pt, .int (nI dg), .ref ot, .int (nI wr), .int (nI kz), .ref ka, .ref kd, .ref kp, .int (nI ma), .int (bI wg)]))]) [0] (by decide) rfl
        have hKc := hK.sub (tys' := []) [] rfl
        have hFc := va_free (wc := [(q, .inr (5, [.int th, .ref tx, .int (nI mz), .int fl, .int (bI it), .long al, .ref pt, .int (nI dg), .ref ot, .int (nI wr), .int (nI kz), .ref ka, .ref kd, .ref kp, .int (nI ma), .int (bI wg)]))]) hD hS hA [0] rfl
        refine kc_callSi (val := moF al) (va_runV (As := []) (rest := [.int (yrF (mDay al)), .int (mDay al)]) ⟨hx, hb, hml, hown, hts⟩ (m_monthNow l dC dI st s.heap.size q th tx mz fl it al pt dg ot wr kz ka kd kp ma wg hY hM) (cwV 0 hts (kwV kwm_266 kwm_267 kwm_268 kwm_203 kwm_265) rfl rfl rfl (by decide +kernel) ⟨Nat.le_of_ble_eq_true rfl, Nat.le_of_ble_eq_true rfl⟩) ⟨kc_blind, va_recv hKc hPc (ci := 5) (q0 := 0) rfl rfl, kc_pre hG hS hFc hKc hPc hDc⟩ rfl rfl hl.1 rfl (lv_room (Nat.le_of_ble_eq_true rfl)) dX5_unitOf_77 ⟨Nat.le_of_ble_eq_true rfl, Nat.le_of_ble_eq_true rfl⟩) ?_
        refine lv_iconst (v := 1) hx hb dX5_unitOf_80 (by decide) ?_
        have hPc := hP.sub (ws' := []) [] rfl
        have hDc := hD.sub (ws' := []) [] (by decide) rfl
        have hKc := hK.sub (tys' := []) [] rfl
        have hFc := va_free (wc := []) hD hS hA [] rfl
        refine kc_callSi (val := mDayOf (yrF (mDay al)) (moF al) 1) (va_runS (As := [.int (yrF (mDay al)), .int (moF al), .int 1]) (rest := [.int (mDay al)]) ⟨hx, hb, hml, hown, hts⟩ (m_dayOf l dC dI st s.heap.size (yrF (mDay al)) (moF al) 1 hM2) (va_cwS 3 hts (kwS kwm_259 kwm_260 kwm_203 kwm_258) rfl rfl rfl (by decide +kernel) ⟨Nat.le_of_ble_eq_true rfl, Nat.le_of_ble_eq_true rfl⟩) ⟨kc_blind, kc_pre hG hS hFc hKc hPc hDc⟩ rfl rfl hl.1 rfl (lv_room (Nat.le_of_ble_eq_true rfl)) dX5_unitOf_81 ⟨Nat.le_of_ble_eq_true rfl, Nat.le_of_ble_eq_true rfl⟩) ?_
        refine lv_isub hx hb dX5_unitOf_84 ?_
        refine lv_iconst (v := 1) hx hb dX5_unitOf_85 (by decide) ?_
        refine lv_iadd hx hb dX5_unitOf_86 ?_
        have hF9 : mUnit al dg p1 = ((mDay al) - (mDayOf (yrF (mDay al)) (moF al) 1)) + 1 := by
          first | (simp only [mUnit, if_neg c_11_0, if_neg c_11_1, if_pos c_11_2]; done) | rfl
        have hv9 : ((mDay al) - (mDayOf (yrF (mDay al)) (moF al) 1)) + 1 = mUnit al dg p1 := by
          try rw [hF9]
          try rfl
        exact kc_Siret hx hb hr hlocks hv9 dX5_unitOf_87
      · by_cases c_11_3 : p1 = 3
        · refine lv_tableIn (off := 77) (tgt := 88) hx hb dX5_unitOf_11 (by rw [c_11_3]; decide) (by rw [c_11_3]; decide) (by rw [c_11_3]; rfl) (by decide) ?_
          refine lv_iload_n hx hb dX5_unitOf_88 rfl (lv_at hl 0 rfl) ?_
          refine lv_sipush (v := 3600) hx hb dX5_unitOf_89 (by decide) ?_
          refine lv_idiv hx hb dX5_unitOf_92 (by decide) ?_
          have hF9 : mUnit al dg p1 = (al - al / 86400 * 86400).toInt32 / 3600 := by
            first | (simp only [mUnit, if_neg c_11_0, if_neg c_11_1, if_neg c_11_2, if_pos c_11_3]; done) | rfl
          have hv9 : (al - al / 86400 * 86400).toInt32 / 3600 = mUnit al dg p1 := by
            try rw [hF9]
            try rfl
          exact kc_Siret hx hb hr hlocks hv9 dX5_unitOf_93
        · by_cases c_11_4 : p1 = 4
          · refine lv_tableIn (off := 83) (tgt := 94) hx hb dX5_unitOf_11 (by rw [c_11_4]; decide) (by rw [c_11_4]; decide) (by rw [c_11_4]; rfl) (by decide) ?_
            refine lv_iload_n hx hb dX5_unitOf_94 rfl (lv_at hl 0 rfl) ?_
            refine lv_bipush (v := 60) hx hb dX5_unitOf_95 (by decide) ?_
            refine lv_idiv hx hb dX5_unitOf_97 (by decide) ?_
            refine lv_bipush (v := 60) hx hb dX5_unitOf_98 (by decide) ?_
            refine lv_irem hx hb dX5_unitOf_100 (by decide) ?_
            have hF9 : mUnit al dg p1 = ((al - al / 86400 * 86400).toInt32 / 60) - ((al - al / 86400 * 86400).toInt32 / 60) / 60 * 60 := by
              first | (simp only [mUnit, if_neg c_11_0, if_neg c_11_1, if_neg c_11_2, if_neg c_11_3, if_pos c_11_4]; done) | rfl
            have hv9 : ((al - al / 86400 * 86400).toInt32 / 60) - ((al - al / 86400 * 86400).toInt32 / 60) / 60 * 60 = mUnit al dg p1 := by
              try rw [hF9]
              try rfl
            exact kc_Siret hx hb hr hlocks hv9 dX5_unitOf_101
          · by_cases c_11_5 : p1 = 5
            · refine lv_tableIn (off := 91) (tgt := 102) hx hb dX5_unitOf_11 (by rw [c_11_5]; decide) (by rw [c_11_5]; decide) (by rw [c_11_5]; rfl) (by decide) ?_
              refine lv_iload_n hx hb dX5_unitOf_102 rfl (lv_at hl 0 rfl) ?_
              refine lv_bipush (v := 60) hx hb dX5_unitOf_103 (by decide) ?_
              refine lv_irem hx hb dX5_unitOf_105 (by decide) ?_
              have hF9 : mUnit al dg p1 = (al - al / 86400 * 86400).toInt32 - (al - al / 86400 * 86400).toInt32 / 60 * 60 := by
                first | (simp only [mUnit, if_neg c_11_0, if_neg c_11_1, if_neg c_11_2, if_neg c_11_3, if_neg c_11_4, if_pos c_11_5]; done) | rfl
              have hv9 : (al - al / 86400 * 86400).toInt32 - (al - al / 86400 * 86400).toInt32 / 60 * 60 = mUnit al dg p1 := by
                try rw [hF9]
                try rfl
              exact kc_Siret hx hb hr hlocks hv9 dX5_unitOf_106
            · by_cases c_11_6 : p1 = 6
              · refine lv_tableIn (off := 96) (tgt := 107) hx hb dX5_unitOf_11 (by rw [c_11_6]; decide) (by rw [c_11_6]; decide) (by rw [c_11_6]; rfl) (by decide) ?_
                refine lv_aload_n hx hb dX5_unitOf_107 rfl (lv_at hl 1 rfl) ?_
                refine va_get (D := (dC, dI)) (ci := 5) (v := .int (nI dg)) (C := RX5) (T := TX5) (N := 16) hx hb hts kin_5 hown hK hP 0 rfl rfl 7 (by decide) (hts _ (kcm kwm_236)) (fun _ h9 => h9) rfl dX5_unitOf_108 ?_
                have hF9 : mUnit al dg p1 = nI dg := by
                  first | (simp only [mUnit, if_neg c_11_0, if_neg c_11_1, if_neg c_11_2, if_neg c_11_3, if_neg c_11_4, if_neg c_11_5, if_pos c_11_6]; done) | rfl
                have hv9 : nI dg = mUnit al dg p1 := by
                  try rw [hF9]
                  try rfl
                exact kc_Siret hx hb hr hlocks hv9 dX5_unitOf_111
              · refine lv_tableOut (tgt := 112) hx hb dX5_unitOf_11 (by have h0 := lv_neT c_11_0 (a := 0) (by decide); have h1 := lv_neT c_11_1 (a := 1) (by decide); have h2 := lv_neT c_11_2 (a := 2) (by decide); have h3 := lv_neT c_11_3 (a := 3) (by decide); have h4 := lv_neT c_11_4 (a := 4) (by decide); have h5 := lv_neT c_11_5 (a := 5) (by decide); have h6 := lv_neT c_11_6 (a := 6) (by decide); omega) (by decide) ?_
                refine lv_aload_n hx hb dX5_unitOf_112 rfl (lv_at hl 1 rfl) ?_
                have hPc := hP.sub (ws' := [(q, .inr (5, [.int th, .ref tx, .int (nI mz), .int fl, .int (bI it), .long al, .ref pt, .int (nI dg), .ref ot, .int (nI wr), .int (nI kz), .ref ka, .ref kd, .ref kp, .int (nI ma), .int (bI wg)]))]) [0] rfl
                have hDc := hD.sub (ws' := [(q, .inr (5, [.int th, .ref tx, .int (nI mz), .int fl, .int (bI it), .long al, .ref pt, .int (nI dg), .ref ot, .int (nI wr), .int (nI kz), .ref ka, .ref kd, .ref kp, .int (nI ma), .int (bI wg)]))]) [0] (by decide) rfl
                have hKc := hK.sub (tys' := []) [] rfl
                have hFc := va_free (wc := [(q, .inr (5, [.int th, .ref tx, .int (nI mz), .int fl, .int (bI it), .long al, .ref pt, .int (nI dg), .ref ot, .int (nI wr), .int (nI kz), .ref ka, .ref kd, .ref kp, .int (nI ma), .int (bI wg)]))]) hD hS hA [0] rfl
                refine kc_callSi (val := mDay al) (va_runV (As := []) (rest := []) ⟨hx, hb, hml, hown, hts⟩ (m_dayNow l dC dI st s.heap.size q th tx mz fl it al pt dg ot wr kz ka kd kp ma wg ) (cwV 0 hts (kwV kwm_220 kwm_221 kwm_222 kwm_203 kwm_219) rfl rfl rfl (by decide +kernel) ⟨Nat.le_of_ble_eq_true rfl, Nat.le_of_ble_eq_true rfl⟩) ⟨kc_blind, va_recv hKc hPc (ci := 5) (q0 := 0) rfl rfl, kc_pre hG hS hFc hKc hPc hDc⟩ rfl rfl hl.1 rfl (lv_room (Nat.le_of_ble_eq_true rfl)) dX5_unitOf_113 ⟨Nat.le_of_ble_eq_true rfl, Nat.le_of_ble_eq_true rfl⟩) ?_
                refine lv_iconst (v := 5) hx hb dX5_unitOf_116 (by decide) ?_
                refine lv_iadd hx hb dX5_unitOf_117 ?_
                refine lv_bipush (v := 7) hx hb dX5_unitOf_118 (by decide) ?_
                refine lv_irem hx hb dX5_unitOf_120 (by decide) ?_
                have hF9 : mUnit al dg p1 = ((mDay al) + 5) - ((mDay al) + 5) / 7 * 7 := by
                  first | (simp only [mUnit, if_neg c_11_0, if_neg c_11_1, if_neg c_11_2, if_neg c_11_3, if_neg c_11_4, if_neg c_11_5, if_neg c_11_6]; done) | rfl
                have hv9 : ((mDay al) + 5) - ((mDay al) + 5) / 7 * 7 = mUnit al dg p1 := by
                  try rw [hF9]
                  try rfl
                exact kc_Siret hx hb hr hlocks hv9 dX5_unitOf_121
