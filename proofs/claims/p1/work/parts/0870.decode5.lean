theorem dMo_read_0 : decode cMo_read 0 = .ok (.aload_n 0, 1) := by decide +kernel
theorem dMo_read_1 : decode cMo_read 1 = .ok (.iconst 0, 1) := by decide +kernel
theorem dMo_read_2 : decode cMo_read 2 = .ok (.putfield 18, 3) := by decide +kernel
theorem dMo_read_5 : decode cMo_read 5 = .ok (.aload_n 0, 1) := by decide +kernel
theorem dMo_read_6 : decode cMo_read 6 = .ok (.iconst 0, 1) := by decide +kernel
theorem dMo_read_7 : decode cMo_read 7 = .ok (.putfield 31, 3) := by decide +kernel
theorem dMo_read_10 : decode cMo_read 10 = .ok (.aload_n 0, 1) := by decide +kernel
theorem dMo_read_11 : decode cMo_read 11 = .ok (.iconst 0, 1) := by decide +kernel
theorem dMo_read_12 : decode cMo_read 12 = .ok (.putfield 46, 3) := by decide +kernel
theorem dMo_read_15 : decode cMo_read 15 = .ok (.aload_n 0, 1) := by decide +kernel
theorem dMo_read_16 : decode cMo_read 16 = .ok (.iconst 0, 1) := by decide +kernel
theorem dMo_read_17 : decode cMo_read 17 = .ok (.putfield 43, 3) := by decide +kernel
theorem dMo_read_20 : decode cMo_read 20 = .ok (.aload_n 0, 1) := by decide +kernel
theorem dMo_read_21 : decode cMo_read 21 = .ok (.iconst 0, 1) := by decide +kernel
theorem dMo_read_22 : decode cMo_read 22 = .ok (.putfield 62, 3) := by decide +kernel
theorem dMo_read_25 : decode cMo_read 25 = .ok (.aload_n 0, 1) := by decide +kernel
theorem dMo_read_26 : decode cMo_read 26 = .ok (.iconst 0, 1) := by decide +kernel
theorem dMo_read_27 : decode cMo_read 27 = .ok (.putfield 65, 3) := by decide +kernel
theorem dMo_read_30 : decode cMo_read 30 = .ok (.aload_n 0, 1) := by decide +kernel
theorem dMo_read_31 : decode cMo_read 31 = .ok (.iconst 0, 1) := by decide +kernel
theorem dMo_read_32 : decode cMo_read 32 = .ok (.putfield 77, 3) := by decide +kernel
theorem dMo_read_35 : decode cMo_read 35 = .ok (.aload_n 0, 1) := by decide +kernel
theorem dMo_read_36 : decode cMo_read 36 = .ok (.iconst 0, 1) := by decide +kernel
theorem dMo_read_37 : decode cMo_read 37 = .ok (.putfield 80, 3) := by decide +kernel
theorem dMo_read_40 : decode cMo_read 40 = .ok (.aload_n 0, 1) := by decide +kernel
theorem dMo_read_41 : decode cMo_read 41 = .ok (.iconst 0, 1) := by decide +kernel
theorem dMo_read_42 : decode cMo_read 42 = .ok (.putfield 89, 3) := by decide +kernel
theorem dMo_read_45 : decode cMo_read 45 = .ok (.aload_n 0, 1) := by decide +kernel
theorem dMo_read_46 : decode cMo_read 46 = .ok (.iconst 0, 1) := by decide +kernel
theorem dMo_read_47 : decode cMo_read 47 = .ok (.putfield 113, 3) := by decide +kernel
theorem dMo_read_50 : decode cMo_read 50 = .ok (.aload_n 0, 1) := by decide +kernel
theorem dMo_read_51 : decode cMo_read 51 = .ok (.iconst 0, 1) := by decide +kernel
theorem dMo_read_52 : decode cMo_read 52 = .ok (.putfield 116, 3) := by decide +kernel
theorem dMo_read_55 : decode cMo_read 55 = .ok (.aload_n 0, 1) := by decide +kernel
theorem dMo_read_56 : decode cMo_read 56 = .ok (.iconst 0, 1) := by decide +kernel
theorem dMo_read_57 : decode cMo_read 57 = .ok (.putfield 119, 3) := by decide +kernel
theorem dMo_read_60 : decode cMo_read 60 = .ok (.aload_n 0, 1) := by decide +kernel
theorem dMo_read_61 : decode cMo_read 61 = .ok (.iconst 0, 1) := by decide +kernel
theorem dMo_read_62 : decode cMo_read 62 = .ok (.putfield 122, 3) := by decide +kernel
theorem dMo_read_65 : decode cMo_read 65 = .ok (.aload_n 0, 1) := by decide +kernel
theorem dMo_read_66 : decode cMo_read 66 = .ok (.iconst 0, 1) := by decide +kernel
theorem dMo_read_67 : decode cMo_read 67 = .ok (.putfield 128, 3) := by decide +kernel
theorem dMo_read_70 : decode cMo_read 70 = .ok (.aload_n 0, 1) := by decide +kernel
theorem dMo_read_71 : decode cMo_read 71 = .ok (.iconst 0, 1) := by decide +kernel
theorem dMo_read_72 : decode cMo_read 72 = .ok (.putfield 131, 3) := by decide +kernel
theorem dMo_read_75 : decode cMo_read 75 = .ok (.aload_n 0, 1) := by decide +kernel
theorem dMo_read_76 : decode cMo_read 76 = .ok (.iconst 0, 1) := by decide +kernel
theorem dMo_read_77 : decode cMo_read 77 = .ok (.putfield 68, 3) := by decide +kernel
theorem dMo_read_80 : decode cMo_read 80 = .ok (.aload_n 0, 1) := by decide +kernel
theorem dMo_read_81 : decode cMo_read 81 = .ok (.iconst 0, 1) := by decide +kernel
theorem dMo_read_82 : decode cMo_read 82 = .ok (.putfield 21, 3) := by decide +kernel
theorem dMo_read_85 : decode cMo_read 85 = .ok (.aload_n 0, 1) := by decide +kernel
theorem dMo_read_86 : decode cMo_read 86 = .ok (.iconst 0, 1) := by decide +kernel
theorem dMo_read_87 : decode cMo_read 87 = .ok (.putfield 24, 3) := by decide +kernel
theorem dMo_read_90 : decode cMo_read 90 = .ok (.aload_n 0, 1) := by decide +kernel
theorem dMo_read_91 : decode cMo_read 91 = .ok (.iconst 0, 1) := by decide +kernel
theorem dMo_read_92 : decode cMo_read 92 = .ok (.putfield 27, 3) := by decide +kernel
theorem dMo_read_95 : decode cMo_read 95 = .ok (.aload_n 0, 1) := by decide +kernel
theorem dMo_read_96 : decode cMo_read 96 = .ok (.invokevirtual 356, 3) := by decide +kernel
theorem dMo_read_99 : decode cMo_read 99 = .ok (.aload_n 0, 1) := by decide +kernel
theorem dMo_read_100 : decode cMo_read 100 = .ok (.getfield 116, 3) := by decide +kernel
theorem dMo_read_103 : decode cMo_read 103 = .ok (.sipush 200, 3) := by decide +kernel
theorem dMo_read_106 : decode cMo_read 106 = .ok (.if_icmp .gt 32, 3) := by decide +kernel
theorem dMo_read_109 : decode cMo_read 109 = .ok (.aload_n 0, 1) := by decide +kernel
theorem dMo_read_110 : decode cMo_read 110 = .ok (.getfield 110, 3) := by decide +kernel
theorem dMo_read_113 : decode cMo_read 113 = .ok (.aload_n 0, 1) := by decide +kernel
theorem dMo_read_114 : decode cMo_read 114 = .ok (.getfield 125, 3) := by decide +kernel
theorem dMo_read_117 : decode cMo_read 117 = .ok (.iaload, 1) := by decide +kernel
theorem dMo_read_118 : decode cMo_read 118 = .ok (.sipush 30000, 3) := by decide +kernel
theorem dMo_read_121 : decode cMo_read 121 = .ok (.if_icmp .gt 17, 3) := by decide +kernel
theorem dMo_read_124 : decode cMo_read 124 = .ok (.aload_n 0, 1) := by decide +kernel
theorem dMo_read_125 : decode cMo_read 125 = .ok (.getfield 143, 3) := by decide +kernel
theorem dMo_read_128 : decode cMo_read 128 = .ok (.aload_n 0, 1) := by decide +kernel
theorem dMo_read_129 : decode cMo_read 129 = .ok (.getfield 125, 3) := by decide +kernel
theorem dMo_read_132 : decode cMo_read 132 = .ok (.iaload, 1) := by decide +kernel
theorem dMo_read_133 : decode cMo_read 133 = .ok (.bipush 12, 2) := by decide +kernel
theorem dMo_read_135 : decode cMo_read 135 = .ok (.if_icmp .le 16, 3) := by decide +kernel
theorem dMo_read_138 : decode cMo_read 138 = .ok (.new 191, 3) := by decide +kernel
theorem dMo_read_141 : decode cMo_read 141 = .ok (.dup, 1) := by decide +kernel
theorem dMo_read_142 : decode cMo_read 142 = .ok (.iconst 4, 1) := by decide +kernel
theorem dMo_read_143 : decode cMo_read 143 = .ok (.aload_n 0, 1) := by decide +kernel
theorem dMo_read_144 : decode cMo_read 144 = .ok (.getfield 14, 3) := by decide +kernel
theorem dMo_read_147 : decode cMo_read 147 = .ok (.invokespecial 193, 3) := by decide +kernel
theorem dMo_read_150 : decode cMo_read 150 = .ok (.athrow, 1) := by decide +kernel
theorem dMo_read_151 : decode cMo_read 151 = .ok (.aload_n 0, 1) := by decide +kernel
theorem dMo_read_152 : decode cMo_read 152 = .ok (.aload_n 0, 1) := by decide +kernel
theorem dMo_read_153 : decode cMo_read 153 = .ok (.getfield 143, 3) := by decide +kernel
theorem dMo_read_156 : decode cMo_read 156 = .ok (.aload_n 0, 1) := by decide +kernel
theorem dMo_read_157 : decode cMo_read 157 = .ok (.getfield 125, 3) := by decide +kernel
theorem dMo_read_160 : decode cMo_read 160 = .ok (.iaload, 1) := by decide +kernel
theorem dMo_read_161 : decode cMo_read 161 = .ok (.putfield 128, 3) := by decide +kernel
theorem dMo_read_164 : decode cMo_read 164 = .ok (.aload_n 0, 1) := by decide +kernel
theorem dMo_read_165 : decode cMo_read 165 = .ok (.getfield 140, 3) := by decide +kernel
theorem dMo_read_168 : decode cMo_read 168 = .ok (.aload_n 0, 1) := by decide +kernel
theorem dMo_read_169 : decode cMo_read 169 = .ok (.getfield 125, 3) := by decide +kernel
theorem dMo_read_172 : decode cMo_read 172 = .ok (.iaload, 1) := by decide +kernel
theorem dMo_read_173 : decode cMo_read 173 = .ok (.ifCond .le 11, 3) := by decide +kernel
theorem dMo_read_176 : decode cMo_read 176 = .ok (.aload_n 0, 1) := by decide +kernel
theorem dMo_read_177 : decode cMo_read 177 = .ok (.aload_n 0, 1) := by decide +kernel
theorem dMo_read_178 : decode cMo_read 178 = .ok (.getfield 125, 3) := by decide +kernel
theorem dMo_read_181 : decode cMo_read 181 = .ok (.invokevirtual 353, 3) := by decide +kernel
theorem dMo_read_184 : decode cMo_read 184 = .ok (.aload_n 0, 1) := by decide +kernel
theorem dMo_read_185 : decode cMo_read 185 = .ok (.iconst 1, 1) := by decide +kernel
theorem dMo_read_186 : decode cMo_read 186 = .ok (.putfield 27, 3) := by decide +kernel
theorem dMo_read_189 : decode cMo_read 189 = .ok (.goto 35, 3) := by decide +kernel
theorem dMo_read_192 : decode cMo_read 192 = .ok (.astore_n 1, 1) := by decide +kernel
theorem dMo_read_193 : decode cMo_read 193 = .ok (.aload_n 0, 1) := by decide +kernel
theorem dMo_read_194 : decode cMo_read 194 = .ok (.aload_n 1, 1) := by decide +kernel
theorem dMo_read_195 : decode cMo_read 195 = .ok (.getfield 359, 3) := by decide +kernel
theorem dMo_read_198 : decode cMo_read 198 = .ok (.putfield 21, 3) := by decide +kernel
theorem dMo_read_201 : decode cMo_read 201 = .ok (.aload_n 0, 1) := by decide +kernel
theorem dMo_read_202 : decode cMo_read 202 = .ok (.aload_n 1, 1) := by decide +kernel
theorem dMo_read_203 : decode cMo_read 203 = .ok (.getfield 362, 3) := by decide +kernel
theorem dMo_read_206 : decode cMo_read 206 = .ok (.putfield 24, 3) := by decide +kernel
theorem dMo_read_209 : decode cMo_read 209 = .ok (.aload_n 0, 1) := by decide +kernel
theorem dMo_read_210 : decode cMo_read 210 = .ok (.iconst 0, 1) := by decide +kernel
theorem dMo_read_211 : decode cMo_read 211 = .ok (.putfield 122, 3) := by decide +kernel
theorem dMo_read_214 : decode cMo_read 214 = .ok (.aload_n 0, 1) := by decide +kernel
theorem dMo_read_215 : decode cMo_read 215 = .ok (.iconst 0, 1) := by decide +kernel
theorem dMo_read_216 : decode cMo_read 216 = .ok (.putfield 77, 3) := by decide +kernel
theorem dMo_read_219 : decode cMo_read 219 = .ok (.aload_n 0, 1) := by decide +kernel
theorem dMo_read_220 : decode cMo_read 220 = .ok (.iconst 0, 1) := by decide +kernel
theorem dMo_read_221 : decode cMo_read 221 = .ok (.putfield 68, 3) := by decide +kernel
theorem dMo_read_224 : decode cMo_read 224 = .ok (.aload_n 0, 1) := by decide +kernel
theorem dMo_read_225 : decode cMo_read 225 = .ok (.getfield 152, 3) := by decide +kernel
theorem dMo_read_228 : decode cMo_read 228 = .ok (.iconst 0, 1) := by decide +kernel
theorem dMo_read_229 : decode cMo_read 229 = .ok (.invokestatic 365, 3) := by decide +kernel
theorem dMo_read_232 : decode cMo_read 232 = .ok (.aload_n 0, 1) := by decide +kernel
theorem dMo_read_233 : decode cMo_read 233 = .ok (.iconst 0, 1) := by decide +kernel
theorem dMo_read_234 : decode cMo_read 234 = .ok (.putfield 14, 3) := by decide +kernel
theorem dMo_read_237 : decode cMo_read 237 = .ok (.aload_n 0, 1) := by decide +kernel
theorem dMo_read_238 : decode cMo_read 238 = .ok (.getfield 27, 3) := by decide +kernel
theorem dMo_read_241 : decode cMo_read 241 = .ok (.ifCond .eq 10, 3) := by decide +kernel
theorem dMo_read_244 : decode cMo_read 244 = .ok (.aload_n 0, 1) := by decide +kernel
theorem dMo_read_245 : decode cMo_read 245 = .ok (.getfield 122, 3) := by decide +kernel
theorem dMo_read_248 : decode cMo_read 248 = .ok (.goto 4, 3) := by decide +kernel
theorem dMo_read_251 : decode cMo_read 251 = .ok (.iconst (-1), 1) := by decide +kernel
theorem dMo_read_252 : decode cMo_read 252 = .ok (.ireturn, 1) := by decide +kernel
theorem dMo_text_0 : decode cMo_text 0 = .ok (.aload_n 0, 1) := by decide +kernel
theorem dMo_text_1 : decode cMo_text 1 = .ok (.ldc 231, 2) := by decide +kernel
theorem dMo_text_3 : decode cMo_text 3 = .ok (.invokevirtual 232, 3) := by decide +kernel
theorem dMo_text_6 : decode cMo_text 6 = .ok (.ifCond .ne 8, 3) := by decide +kernel
theorem dMo_text_9 : decode cMo_text 9 = .ok (.aload_n 0, 1) := by decide +kernel
theorem dMo_text_10 : decode cMo_text 10 = .ok (.invokevirtual 215, 3) := by decide +kernel
theorem dMo_text_13 : decode cMo_text 13 = .ok (.athrow, 1) := by decide +kernel
theorem dMo_text_14 : decode cMo_text 14 = .ok (.aload_n 0, 1) := by decide +kernel
theorem dMo_text_15 : decode cMo_text 15 = .ok (.invokevirtual 219, 3) := by decide +kernel
theorem dMo_text_18 : decode cMo_text 18 = .ok (.aload_n 0, 1) := by decide +kernel
theorem dMo_text_19 : decode cMo_text 19 = .ok (.aload_n 0, 1) := by decide +kernel
theorem dMo_text_20 : decode cMo_text 20 = .ok (.iconst 1, 1) := by decide +kernel
theorem dMo_text_21 : decode cMo_text 21 = .ok (.bipush 8, 2) := by decide +kernel
theorem dMo_text_23 : decode cMo_text 23 = .ok (.invokevirtual 308, 3) := by decide +kernel
theorem dMo_text_26 : decode cMo_text 26 = .ok (.putfield 68, 3) := by decide +kernel
theorem dMo_text_29 : decode cMo_text 29 = .ok (.aload_n 0, 1) := by decide +kernel
theorem dMo_text_30 : decode cMo_text 30 = .ok (.bipush 59, 2) := by decide +kernel
theorem dMo_text_32 : decode cMo_text 32 = .ok (.invokevirtual 287, 3) := by decide +kernel
theorem dMo_text_35 : decode cMo_text 35 = .ok (.aload_n 0, 1) := by decide +kernel
theorem dMo_text_36 : decode cMo_text 36 = .ok (.ldc 236, 2) := by decide +kernel
theorem dMo_text_38 : decode cMo_text 38 = .ok (.invokevirtual 232, 3) := by decide +kernel
theorem dMo_text_41 : decode cMo_text 41 = .ok (.ifCond .ne 12, 3) := by decide +kernel
theorem dMo_text_44 : decode cMo_text 44 = .ok (.aload_n 0, 1) := by decide +kernel
theorem dMo_text_45 : decode cMo_text 45 = .ok (.ldc 238, 2) := by decide +kernel
theorem dMo_text_47 : decode cMo_text 47 = .ok (.invokevirtual 232, 3) := by decide +kernel
theorem dMo_text_50 : decode cMo_text 50 = .ok (.ifCond .eq 32, 3) := by decide +kernel
theorem dMo_text_53 : decode cMo_text 53 = .ok (.aload_n 0, 1) := by decide +kernel
theorem dMo_text_54 : decode cMo_text 54 = .ok (.ldc 236, 2) := by decide +kernel
theorem dMo_text_56 : decode cMo_text 56 = .ok (.invokevirtual 232, 3) := by decide +kernel
theorem dMo_text_59 : decode cMo_text 59 = .ok (.istore_n 1, 1) := by decide +kernel
theorem dMo_text_60 : decode cMo_text 60 = .ok (.aload_n 0, 1) := by decide +kernel
theorem dMo_text_61 : decode cMo_text 61 = .ok (.invokevirtual 219, 3) := by decide +kernel
theorem dMo_text_64 : decode cMo_text 64 = .ok (.iload_n 1, 1) := by decide +kernel
theorem dMo_text_65 : decode cMo_text 65 = .ok (.ifCond .eq 10, 3) := by decide +kernel
theorem dMo_text_68 : decode cMo_text 68 = .ok (.aload_n 0, 1) := by decide +kernel
theorem dMo_text_69 : decode cMo_text 69 = .ok (.invokevirtual 316, 3) := by decide +kernel
theorem dMo_text_72 : decode cMo_text 72 = .ok (.goto 7, 3) := by decide +kernel
theorem dMo_text_75 : decode cMo_text 75 = .ok (.aload_n 0, 1) := by decide +kernel
theorem dMo_text_76 : decode cMo_text 76 = .ok (.invokevirtual 319, 3) := by decide +kernel
theorem dMo_text_79 : decode cMo_text 79 = .ok (.goto (-44), 3) := by decide +kernel
theorem dMo_text_82 : decode cMo_text 82 = .ok (.aload_n 0, 1) := by decide +kernel
theorem dMo_text_83 : decode cMo_text 83 = .ok (.aload_n 0, 1) := by decide +kernel
theorem dMo_text_84 : decode cMo_text 84 = .ok (.iconst 0, 1) := by decide +kernel
theorem dMo_text_85 : decode cMo_text 85 = .ok (.iconst 0, 1) := by decide +kernel
theorem dMo_text_86 : decode cMo_text 86 = .ok (.invokevirtual 322, 3) := by decide +kernel
theorem dMo_text_89 : decode cMo_text 89 = .ok (.putfield 125, 3) := by decide +kernel
theorem dMo_text_92 : decode cMo_text 92 = .ok (.return_, 1) := by decide +kernel
theorem dMo_is_0 : decode cMo_is 0 = .ok (.aload_n 0, 1) := by decide +kernel
theorem dMo_is_1 : decode cMo_is 1 = .ok (.invokevirtual 211, 3) := by decide +kernel
theorem dMo_is_4 : decode cMo_is 4 = .ok (.iconst 1, 1) := by decide +kernel
theorem dMo_is_5 : decode cMo_is 5 = .ok (.if_icmp .ne 19, 3) := by decide +kernel
theorem dMo_is_8 : decode cMo_is 8 = .ok (.aload_n 0, 1) := by decide +kernel
theorem dMo_is_9 : decode cMo_is 9 = .ok (.getfield 40, 3) := by decide +kernel
theorem dMo_is_12 : decode cMo_is 12 = .ok (.aload_n 0, 1) := by decide +kernel
theorem dMo_is_13 : decode cMo_is 13 = .ok (.getfield 37, 3) := by decide +kernel
theorem dMo_is_16 : decode cMo_is 16 = .ok (.isub, 1) := by decide +kernel
theorem dMo_is_17 : decode cMo_is 17 = .ok (.aload_n 1, 1) := by decide +kernel
theorem dMo_is_18 : decode cMo_is 18 = .ok (.invokevirtual 222, 3) := by decide +kernel
theorem dMo_is_21 : decode cMo_is 21 = .ok (.if_icmp .eq 5, 3) := by decide +kernel
theorem dMo_is_24 : decode cMo_is 24 = .ok (.iconst 0, 1) := by decide +kernel
theorem dMo_is_25 : decode cMo_is 25 = .ok (.ireturn, 1) := by decide +kernel
theorem dMo_is_26 : decode cMo_is 26 = .ok (.iconst 0, 1) := by decide +kernel
theorem dMo_is_27 : decode cMo_is 27 = .ok (.istore_n 2, 1) := by decide +kernel
theorem dMo_is_28 : decode cMo_is 28 = .ok (.iload_n 2, 1) := by decide +kernel
theorem dMo_is_29 : decode cMo_is 29 = .ok (.aload_n 1, 1) := by decide +kernel
theorem dMo_is_30 : decode cMo_is 30 = .ok (.invokevirtual 222, 3) := by decide +kernel
theorem dMo_is_33 : decode cMo_is 33 = .ok (.if_icmp .ge 30, 3) := by decide +kernel
theorem dMo_is_36 : decode cMo_is 36 = .ok (.aload_n 0, 1) := by decide +kernel
theorem dMo_is_37 : decode cMo_is 37 = .ok (.getfield 8, 3) := by decide +kernel
theorem dMo_is_40 : decode cMo_is 40 = .ok (.aload_n 0, 1) := by decide +kernel
theorem dMo_is_41 : decode cMo_is 41 = .ok (.getfield 37, 3) := by decide +kernel
theorem dMo_is_44 : decode cMo_is 44 = .ok (.iload_n 2, 1) := by decide +kernel
theorem dMo_is_45 : decode cMo_is 45 = .ok (.iadd, 1) := by decide +kernel
theorem dMo_is_46 : decode cMo_is 46 = .ok (.baload, 1) := by decide +kernel
theorem dMo_is_47 : decode cMo_is 47 = .ok (.aload_n 1, 1) := by decide +kernel
theorem dMo_is_48 : decode cMo_is 48 = .ok (.iload_n 2, 1) := by decide +kernel
theorem dMo_is_49 : decode cMo_is 49 = .ok (.invokevirtual 227, 3) := by decide +kernel
theorem dMo_is_52 : decode cMo_is 52 = .ok (.if_icmp .eq 5, 3) := by decide +kernel
theorem dMo_is_55 : decode cMo_is 55 = .ok (.iconst 0, 1) := by decide +kernel
theorem dMo_is_56 : decode cMo_is 56 = .ok (.ireturn, 1) := by decide +kernel
theorem dMo_is_57 : decode cMo_is 57 = .ok (.iinc 2 1, 3) := by decide +kernel
theorem dMo_is_60 : decode cMo_is 60 = .ok (.goto (-32), 3) := by decide +kernel
theorem dMo_is_63 : decode cMo_is 63 = .ok (.iconst 1, 1) := by decide +kernel
theorem dMo_is_64 : decode cMo_is 64 = .ok (.ireturn, 1) := by decide +kernel
theorem dMo_peek_0 : decode cMo_peek 0 = .ok (.aload_n 0, 1) := by decide +kernel
theorem dMo_peek_1 : decode cMo_peek 1 = .ok (.getfield 46, 3) := by decide +kernel
theorem dMo_peek_4 : decode cMo_peek 4 = .ok (.ifCond .eq 8, 3) := by decide +kernel
theorem dMo_peek_7 : decode cMo_peek 7 = .ok (.aload_n 0, 1) := by decide +kernel
theorem dMo_peek_8 : decode cMo_peek 8 = .ok (.getfield 34, 3) := by decide +kernel
theorem dMo_peek_11 : decode cMo_peek 11 = .ok (.ireturn, 1) := by decide +kernel
theorem dMo_peek_12 : decode cMo_peek 12 = .ok (.aload_n 0, 1) := by decide +kernel
theorem dMo_peek_13 : decode cMo_peek 13 = .ok (.invokevirtual 188, 3) := by decide +kernel
theorem dMo_peek_16 : decode cMo_peek 16 = .ok (.aload_n 0, 1) := by decide +kernel
theorem dMo_peek_17 : decode cMo_peek 17 = .ok (.iconst 1, 1) := by decide +kernel
theorem dMo_peek_18 : decode cMo_peek 18 = .ok (.putfield 46, 3) := by decide +kernel
theorem dMo_peek_21 : decode cMo_peek 21 = .ok (.aload_n 0, 1) := by decide +kernel
theorem dMo_peek_22 : decode cMo_peek 22 = .ok (.aload_n 0, 1) := by decide +kernel
theorem dMo_peek_23 : decode cMo_peek 23 = .ok (.getfield 31, 3) := by decide +kernel
theorem dMo_peek_26 : decode cMo_peek 26 = .ok (.putfield 37, 3) := by decide +kernel
theorem dMo_peek_29 : decode cMo_peek 29 = .ok (.aload_n 0, 1) := by decide +kernel
theorem dMo_peek_30 : decode cMo_peek 30 = .ok (.aload_n 0, 1) := by decide +kernel
theorem dMo_peek_31 : decode cMo_peek 31 = .ok (.getfield 31, 3) := by decide +kernel
theorem dMo_peek_34 : decode cMo_peek 34 = .ok (.putfield 40, 3) := by decide +kernel
theorem dMo_peek_37 : decode cMo_peek 37 = .ok (.aload_n 0, 1) := by decide +kernel
theorem dMo_peek_38 : decode cMo_peek 38 = .ok (.iconst 0, 1) := by decide +kernel
theorem dMo_peek_39 : decode cMo_peek 39 = .ok (.putfield 34, 3) := by decide +kernel
theorem dMo_peek_42 : decode cMo_peek 42 = .ok (.aload_n 0, 1) := by decide +kernel
theorem dMo_peek_43 : decode cMo_peek 43 = .ok (.getfield 31, 3) := by decide +kernel
theorem dMo_peek_46 : decode cMo_peek 46 = .ok (.aload_n 0, 1) := by decide +kernel
theorem dMo_peek_47 : decode cMo_peek 47 = .ok (.getfield 14, 3) := by decide +kernel
theorem dMo_peek_50 : decode cMo_peek 50 = .ok (.if_icmp .ne 5, 3) := by decide +kernel
theorem dMo_peek_53 : decode cMo_peek 53 = .ok (.iconst 0, 1) := by decide +kernel
theorem dMo_peek_54 : decode cMo_peek 54 = .ok (.ireturn, 1) := by decide +kernel
theorem dMo_peek_55 : decode cMo_peek 55 = .ok (.aload_n 0, 1) := by decide +kernel
theorem dMo_peek_56 : decode cMo_peek 56 = .ok (.dup, 1) := by decide +kernel
theorem dMo_peek_57 : decode cMo_peek 57 = .ok (.getfield 43, 3) := by decide +kernel
theorem dMo_peek_60 : decode cMo_peek 60 = .ok (.iconst 1, 1) := by decide +kernel
theorem dMo_peek_61 : decode cMo_peek 61 = .ok (.iadd, 1) := by decide +kernel
theorem dMo_peek_62 : decode cMo_peek 62 = .ok (.putfield 43, 3) := by decide +kernel
theorem dMo_peek_65 : decode cMo_peek 65 = .ok (.aload_n 0, 1) := by decide +kernel
theorem dMo_peek_66 : decode cMo_peek 66 = .ok (.getfield 43, 3) := by decide +kernel
theorem dMo_peek_69 : decode cMo_peek 69 = .ok (.sipush 8001, 3) := by decide +kernel
theorem dMo_peek_72 : decode cMo_peek 72 = .ok (.if_icmp .ne 16, 3) := by decide +kernel
theorem dMo_peek_75 : decode cMo_peek 75 = .ok (.new 191, 3) := by decide +kernel
theorem dMo_peek_78 : decode cMo_peek 78 = .ok (.dup, 1) := by decide +kernel
theorem dMo_peek_79 : decode cMo_peek 79 = .ok (.iconst 4, 1) := by decide +kernel
theorem dMo_peek_80 : decode cMo_peek 80 = .ok (.aload_n 0, 1) := by decide +kernel
theorem dMo_peek_81 : decode cMo_peek 81 = .ok (.getfield 31, 3) := by decide +kernel
theorem dMo_peek_84 : decode cMo_peek 84 = .ok (.invokespecial 193, 3) := by decide +kernel
theorem dMo_peek_87 : decode cMo_peek 87 = .ok (.athrow, 1) := by decide +kernel
theorem dMo_peek_88 : decode cMo_peek 88 = .ok (.aload_n 0, 1) := by decide +kernel
theorem dMo_peek_89 : decode cMo_peek 89 = .ok (.getfield 8, 3) := by decide +kernel
theorem dMo_peek_92 : decode cMo_peek 92 = .ok (.aload_n 0, 1) := by decide +kernel
theorem dMo_peek_93 : decode cMo_peek 93 = .ok (.getfield 31, 3) := by decide +kernel
theorem dMo_peek_96 : decode cMo_peek 96 = .ok (.baload, 1) := by decide +kernel
theorem dMo_peek_97 : decode cMo_peek 97 = .ok (.istore_n 1, 1) := by decide +kernel
theorem dMo_peek_98 : decode cMo_peek 98 = .ok (.iload_n 1, 1) := by decide +kernel
theorem dMo_peek_99 : decode cMo_peek 99 = .ok (.invokestatic 196, 3) := by decide +kernel
theorem dMo_peek_102 : decode cMo_peek 102 = .ok (.ifCond .eq 97, 3) := by decide +kernel
theorem dMo_peek_105 : decode cMo_peek 105 = .ok (.aload_n 0, 1) := by decide +kernel
theorem dMo_peek_106 : decode cMo_peek 106 = .ok (.getfield 40, 3) := by decide +kernel
theorem dMo_peek_109 : decode cMo_peek 109 = .ok (.aload_n 0, 1) := by decide +kernel
theorem dMo_peek_110 : decode cMo_peek 110 = .ok (.getfield 14, 3) := by decide +kernel
theorem dMo_peek_113 : decode cMo_peek 113 = .ok (.if_icmp .ge 60, 3) := by decide +kernel
theorem dMo_peek_116 : decode cMo_peek 116 = .ok (.aload_n 0, 1) := by decide +kernel
theorem dMo_peek_117 : decode cMo_peek 117 = .ok (.getfield 8, 3) := by decide +kernel
theorem dMo_peek_120 : decode cMo_peek 120 = .ok (.aload_n 0, 1) := by decide +kernel
theorem dMo_peek_121 : decode cMo_peek 121 = .ok (.getfield 40, 3) := by decide +kernel
theorem dMo_peek_124 : decode cMo_peek 124 = .ok (.baload, 1) := by decide +kernel
theorem dMo_peek_125 : decode cMo_peek 125 = .ok (.invokestatic 196, 3) := by decide +kernel
theorem dMo_peek_128 : decode cMo_peek 128 = .ok (.ifCond .ne 32, 3) := by decide +kernel
theorem dMo_peek_131 : decode cMo_peek 131 = .ok (.aload_n 0, 1) := by decide +kernel
theorem dMo_peek_132 : decode cMo_peek 132 = .ok (.getfield 8, 3) := by decide +kernel
theorem dMo_peek_135 : decode cMo_peek 135 = .ok (.aload_n 0, 1) := by decide +kernel
theorem dMo_peek_136 : decode cMo_peek 136 = .ok (.getfield 40, 3) := by decide +kernel
theorem dMo_peek_139 : decode cMo_peek 139 = .ok (.baload, 1) := by decide +kernel
theorem dMo_peek_140 : decode cMo_peek 140 = .ok (.invokestatic 200, 3) := by decide +kernel
theorem dMo_peek_143 : decode cMo_peek 143 = .ok (.ifCond .ne 17, 3) := by decide +kernel
theorem dMo_peek_146 : decode cMo_peek 146 = .ok (.aload_n 0, 1) := by decide +kernel
theorem dMo_peek_147 : decode cMo_peek 147 = .ok (.getfield 8, 3) := by decide +kernel
theorem dMo_peek_150 : decode cMo_peek 150 = .ok (.aload_n 0, 1) := by decide +kernel
theorem dMo_peek_151 : decode cMo_peek 151 = .ok (.getfield 40, 3) := by decide +kernel
theorem dMo_peek_154 : decode cMo_peek 154 = .ok (.baload, 1) := by decide +kernel
theorem dMo_peek_155 : decode cMo_peek 155 = .ok (.bipush 95, 2) := by decide +kernel
theorem dMo_peek_157 : decode cMo_peek 157 = .ok (.if_icmp .ne 16, 3) := by decide +kernel
theorem dMo_peek_160 : decode cMo_peek 160 = .ok (.aload_n 0, 1) := by decide +kernel
theorem dMo_peek_161 : decode cMo_peek 161 = .ok (.dup, 1) := by decide +kernel
theorem dMo_peek_162 : decode cMo_peek 162 = .ok (.getfield 40, 3) := by decide +kernel
theorem dMo_peek_165 : decode cMo_peek 165 = .ok (.iconst 1, 1) := by decide +kernel
theorem dMo_peek_166 : decode cMo_peek 166 = .ok (.iadd, 1) := by decide +kernel
theorem dMo_peek_167 : decode cMo_peek 167 = .ok (.putfield 40, 3) := by decide +kernel
theorem dMo_peek_170 : decode cMo_peek 170 = .ok (.goto (-65), 3) := by decide +kernel
theorem dMo_peek_173 : decode cMo_peek 173 = .ok (.aload_n 0, 1) := by decide +kernel
theorem dMo_peek_174 : decode cMo_peek 174 = .ok (.aload_n 0, 1) := by decide +kernel
theorem dMo_peek_175 : decode cMo_peek 175 = .ok (.getfield 40, 3) := by decide +kernel
theorem dMo_peek_178 : decode cMo_peek 178 = .ok (.aload_n 0, 1) := by decide +kernel
theorem dMo_peek_179 : decode cMo_peek 179 = .ok (.getfield 31, 3) := by decide +kernel
theorem dMo_peek_182 : decode cMo_peek 182 = .ok (.isub, 1) := by decide +kernel
theorem dMo_peek_183 : decode cMo_peek 183 = .ok (.bipush 31, 2) := by decide +kernel
theorem dMo_peek_185 : decode cMo_peek 185 = .ok (.if_icmp .le 7, 3) := by decide +kernel
theorem dMo_peek_188 : decode cMo_peek 188 = .ok (.iconst 3, 1) := by decide +kernel
theorem dMo_peek_189 : decode cMo_peek 189 = .ok (.goto 4, 3) := by decide +kernel
theorem dMo_peek_192 : decode cMo_peek 192 = .ok (.iconst 1, 1) := by decide +kernel
theorem dMo_peek_193 : decode cMo_peek 193 = .ok (.putfield 34, 3) := by decide +kernel
theorem dMo_peek_196 : decode cMo_peek 196 = .ok (.goto 123, 3) := by decide +kernel
theorem dMo_peek_199 : decode cMo_peek 199 = .ok (.iload_n 1, 1) := by decide +kernel
theorem dMo_peek_200 : decode cMo_peek 200 = .ok (.invokestatic 200, 3) := by decide +kernel
theorem dMo_peek_203 : decode cMo_peek 203 = .ok (.ifCond .eq 68, 3) := by decide +kernel
theorem dMo_peek_206 : decode cMo_peek 206 = .ok (.aload_n 0, 1) := by decide +kernel
theorem dMo_peek_207 : decode cMo_peek 207 = .ok (.getfield 40, 3) := by decide +kernel
theorem dMo_peek_210 : decode cMo_peek 210 = .ok (.aload_n 0, 1) := by decide +kernel
theorem dMo_peek_211 : decode cMo_peek 211 = .ok (.getfield 14, 3) := by decide +kernel
theorem dMo_peek_214 : decode cMo_peek 214 = .ok (.if_icmp .ge 31, 3) := by decide +kernel
theorem dMo_peek_217 : decode cMo_peek 217 = .ok (.aload_n 0, 1) := by decide +kernel
theorem dMo_peek_218 : decode cMo_peek 218 = .ok (.getfield 8, 3) := by decide +kernel
theorem dMo_peek_221 : decode cMo_peek 221 = .ok (.aload_n 0, 1) := by decide +kernel
theorem dMo_peek_222 : decode cMo_peek 222 = .ok (.getfield 40, 3) := by decide +kernel
theorem dMo_peek_225 : decode cMo_peek 225 = .ok (.baload, 1) := by decide +kernel
theorem dMo_peek_226 : decode cMo_peek 226 = .ok (.invokestatic 200, 3) := by decide +kernel
theorem dMo_peek_229 : decode cMo_peek 229 = .ok (.ifCond .eq 16, 3) := by decide +kernel
theorem dMo_peek_232 : decode cMo_peek 232 = .ok (.aload_n 0, 1) := by decide +kernel
theorem dMo_peek_233 : decode cMo_peek 233 = .ok (.dup, 1) := by decide +kernel
theorem dMo_peek_234 : decode cMo_peek 234 = .ok (.getfield 40, 3) := by decide +kernel
theorem dMo_peek_237 : decode cMo_peek 237 = .ok (.iconst 1, 1) := by decide +kernel
theorem dMo_peek_238 : decode cMo_peek 238 = .ok (.iadd, 1) := by decide +kernel
theorem dMo_peek_239 : decode cMo_peek 239 = .ok (.putfield 40, 3) := by decide +kernel
theorem dMo_peek_242 : decode cMo_peek 242 = .ok (.goto (-36), 3) := by decide +kernel
theorem dMo_peek_245 : decode cMo_peek 245 = .ok (.aload_n 0, 1) := by decide +kernel
theorem dMo_peek_246 : decode cMo_peek 246 = .ok (.aload_n 0, 1) := by decide +kernel
theorem dMo_peek_247 : decode cMo_peek 247 = .ok (.getfield 40, 3) := by decide +kernel
theorem dMo_peek_250 : decode cMo_peek 250 = .ok (.aload_n 0, 1) := by decide +kernel
theorem dMo_peek_251 : decode cMo_peek 251 = .ok (.getfield 31, 3) := by decide +kernel
theorem dMo_peek_254 : decode cMo_peek 254 = .ok (.isub, 1) := by decide +kernel
theorem dMo_peek_255 : decode cMo_peek 255 = .ok (.bipush 9, 2) := by decide +kernel
theorem dMo_peek_257 : decode cMo_peek 257 = .ok (.if_icmp .le 7, 3) := by decide +kernel
theorem dMo_peek_260 : decode cMo_peek 260 = .ok (.iconst 3, 1) := by decide +kernel
theorem dMo_peek_261 : decode cMo_peek 261 = .ok (.goto 4, 3) := by decide +kernel
theorem dMo_peek_264 : decode cMo_peek 264 = .ok (.iconst 2, 1) := by decide +kernel
theorem dMo_peek_265 : decode cMo_peek 265 = .ok (.putfield 34, 3) := by decide +kernel
theorem dMo_peek_268 : decode cMo_peek 268 = .ok (.goto 51, 3) := by decide +kernel
theorem dMo_peek_271 : decode cMo_peek 271 = .ok (.aload_n 0, 1) := by decide +kernel
theorem dMo_peek_272 : decode cMo_peek 272 = .ok (.aload_n 0, 1) := by decide +kernel
theorem dMo_peek_273 : decode cMo_peek 273 = .ok (.getfield 31, 3) := by decide +kernel
theorem dMo_peek_276 : decode cMo_peek 276 = .ok (.iconst 1, 1) := by decide +kernel
theorem dMo_peek_277 : decode cMo_peek 277 = .ok (.iadd, 1) := by decide +kernel
theorem dMo_peek_278 : decode cMo_peek 278 = .ok (.putfield 40, 3) := by decide +kernel
theorem dMo_peek_281 : decode cMo_peek 281 = .ok (.aload_n 0, 1) := by decide +kernel
theorem dMo_peek_282 : decode cMo_peek 282 = .ok (.iload_n 1, 1) := by decide +kernel
theorem dMo_peek_283 : decode cMo_peek 283 = .ok (.aload_n 0, 1) := by decide +kernel
theorem dMo_peek_284 : decode cMo_peek 284 = .ok (.aload_n 0, 1) := by decide +kernel
theorem dMo_peek_285 : decode cMo_peek 285 = .ok (.getfield 31, 3) := by decide +kernel
theorem dMo_peek_288 : decode cMo_peek 288 = .ok (.iconst 1, 1) := by decide +kernel
theorem dMo_peek_289 : decode cMo_peek 289 = .ok (.iadd, 1) := by decide +kernel
theorem dMo_peek_290 : decode cMo_peek 290 = .ok (.invokevirtual 203, 3) := by decide +kernel
theorem dMo_peek_293 : decode cMo_peek 293 = .ok (.invokestatic 207, 3) := by decide +kernel
theorem dMo_peek_296 : decode cMo_peek 296 = .ok (.putfield 34, 3) := by decide +kernel
theorem dMo_peek_299 : decode cMo_peek 299 = .ok (.aload_n 0, 1) := by decide +kernel
theorem dMo_peek_300 : decode cMo_peek 300 = .ok (.getfield 34, 3) := by decide +kernel
theorem dMo_peek_303 : decode cMo_peek 303 = .ok (.sipush 299, 3) := by decide +kernel
theorem dMo_peek_306 : decode cMo_peek 306 = .ok (.if_icmp .le 13, 3) := by decide +kernel
theorem dMo_peek_309 : decode cMo_peek 309 = .ok (.aload_n 0, 1) := by decide +kernel
theorem dMo_peek_310 : decode cMo_peek 310 = .ok (.dup, 1) := by decide +kernel
theorem dMo_peek_311 : decode cMo_peek 311 = .ok (.getfield 40, 3) := by decide +kernel
theorem dMo_peek_314 : decode cMo_peek 314 = .ok (.iconst 1, 1) := by decide +kernel
theorem dMo_peek_315 : decode cMo_peek 315 = .ok (.iadd, 1) := by decide +kernel
theorem dMo_peek_316 : decode cMo_peek 316 = .ok (.putfield 40, 3) := by decide +kernel
theorem dMo_peek_319 : decode cMo_peek 319 = .ok (.aload_n 0, 1) := by decide +kernel
theorem dMo_peek_320 : decode cMo_peek 320 = .ok (.getfield 34, 3) := by decide +kernel
theorem dMo_peek_323 : decode cMo_peek 323 = .ok (.ireturn, 1) := by decide +kernel
theorem dMo_parts_0 : decode cMo_parts 0 = .ok (.aload_n 0, 1) := by decide +kernel
theorem dMo_parts_1 : decode cMo_parts 1 = .ok (.getfield 31, 3) := by decide +kernel
theorem dMo_parts_4 : decode cMo_parts 4 = .ok (.aload_n 0, 1) := by decide +kernel
theorem dMo_parts_5 : decode cMo_parts 5 = .ok (.getfield 14, 3) := by decide +kernel
theorem dMo_parts_8 : decode cMo_parts 8 = .ok (.if_icmp .ge 98, 3) := by decide +kernel
theorem dMo_parts_11 : decode cMo_parts 11 = .ok (.aload_n 0, 1) := by decide +kernel
theorem dMo_parts_12 : decode cMo_parts 12 = .ok (.getfield 8, 3) := by decide +kernel
theorem dMo_parts_15 : decode cMo_parts 15 = .ok (.aload_n 0, 1) := by decide +kernel
theorem dMo_parts_16 : decode cMo_parts 16 = .ok (.getfield 31, 3) := by decide +kernel
theorem dMo_parts_19 : decode cMo_parts 19 = .ok (.baload, 1) := by decide +kernel
theorem dMo_parts_20 : decode cMo_parts 20 = .ok (.istore_n 1, 1) := by decide +kernel
theorem dMo_parts_21 : decode cMo_parts 21 = .ok (.iload_n 1, 1) := by decide +kernel
theorem dMo_parts_22 : decode cMo_parts 22 = .ok (.bipush 35, 2) := by decide +kernel
theorem dMo_parts_24 : decode cMo_parts 24 = .ok (.if_icmp .ne 41, 3) := by decide +kernel
theorem dMo_parts_27 : decode cMo_parts 27 = .ok (.aload_n 0, 1) := by decide +kernel
theorem dMo_parts_28 : decode cMo_parts 28 = .ok (.getfield 31, 3) := by decide +kernel
theorem dMo_parts_31 : decode cMo_parts 31 = .ok (.aload_n 0, 1) := by decide +kernel
theorem dMo_parts_32 : decode cMo_parts 32 = .ok (.getfield 14, 3) := by decide +kernel
theorem dMo_parts_35 : decode cMo_parts 35 = .ok (.if_icmp .ge 68, 3) := by decide +kernel
theorem dMo_parts_38 : decode cMo_parts 38 = .ok (.aload_n 0, 1) := by decide +kernel
theorem dMo_parts_39 : decode cMo_parts 39 = .ok (.getfield 8, 3) := by decide +kernel
theorem dMo_parts_42 : decode cMo_parts 42 = .ok (.aload_n 0, 1) := by decide +kernel
theorem dMo_parts_43 : decode cMo_parts 43 = .ok (.getfield 31, 3) := by decide +kernel
theorem dMo_parts_46 : decode cMo_parts 46 = .ok (.baload, 1) := by decide +kernel
theorem dMo_parts_47 : decode cMo_parts 47 = .ok (.bipush 10, 2) := by decide +kernel
theorem dMo_parts_49 : decode cMo_parts 49 = .ok (.if_icmp .eq 54, 3) := by decide +kernel
theorem dMo_parts_52 : decode cMo_parts 52 = .ok (.aload_n 0, 1) := by decide +kernel
theorem dMo_parts_53 : decode cMo_parts 53 = .ok (.dup, 1) := by decide +kernel
theorem dMo_parts_54 : decode cMo_parts 54 = .ok (.getfield 31, 3) := by decide +kernel
theorem dMo_parts_57 : decode cMo_parts 57 = .ok (.iconst 1, 1) := by decide +kernel
theorem dMo_parts_58 : decode cMo_parts 58 = .ok (.iadd, 1) := by decide +kernel
theorem dMo_parts_59 : decode cMo_parts 59 = .ok (.putfield 31, 3) := by decide +kernel
theorem dMo_parts_62 : decode cMo_parts 62 = .ok (.goto (-35), 3) := by decide +kernel
theorem dMo_parts_65 : decode cMo_parts 65 = .ok (.iload_n 1, 1) := by decide +kernel
theorem dMo_parts_66 : decode cMo_parts 66 = .ok (.bipush 32, 2) := by decide +kernel
theorem dMo_parts_68 : decode cMo_parts 68 = .ok (.if_icmp .eq 21, 3) := by decide +kernel
theorem dMo_parts_71 : decode cMo_parts 71 = .ok (.iload_n 1, 1) := by decide +kernel
theorem dMo_parts_72 : decode cMo_parts 72 = .ok (.bipush 9, 2) := by decide +kernel
theorem dMo_parts_74 : decode cMo_parts 74 = .ok (.if_icmp .eq 15, 3) := by decide +kernel
theorem dMo_parts_77 : decode cMo_parts 77 = .ok (.iload_n 1, 1) := by decide +kernel
theorem dMo_parts_78 : decode cMo_parts 78 = .ok (.bipush 10, 2) := by decide +kernel
theorem dMo_parts_80 : decode cMo_parts 80 = .ok (.if_icmp .eq 9, 3) := by decide +kernel
theorem dMo_parts_83 : decode cMo_parts 83 = .ok (.iload_n 1, 1) := by decide +kernel
theorem dMo_parts_84 : decode cMo_parts 84 = .ok (.bipush 13, 2) := by decide +kernel
theorem dMo_parts_86 : decode cMo_parts 86 = .ok (.if_icmp .ne 16, 3) := by decide +kernel
theorem dMo_parts_89 : decode cMo_parts 89 = .ok (.aload_n 0, 1) := by decide +kernel
theorem dMo_parts_90 : decode cMo_parts 90 = .ok (.dup, 1) := by decide +kernel
theorem dMo_parts_91 : decode cMo_parts 91 = .ok (.getfield 31, 3) := by decide +kernel
theorem dMo_parts_94 : decode cMo_parts 94 = .ok (.iconst 1, 1) := by decide +kernel
theorem dMo_parts_95 : decode cMo_parts 95 = .ok (.iadd, 1) := by decide +kernel
theorem dMo_parts_96 : decode cMo_parts 96 = .ok (.putfield 31, 3) := by decide +kernel
theorem dMo_parts_99 : decode cMo_parts 99 = .ok (.goto 4, 3) := by decide +kernel
theorem dMo_parts_102 : decode cMo_parts 102 = .ok (.return_, 1) := by decide +kernel
theorem dMo_parts_103 : decode cMo_parts 103 = .ok (.goto (-103), 3) := by decide +kernel
theorem dMo_parts_106 : decode cMo_parts 106 = .ok (.return_, 1) := by decide +kernel
theorem dMo_cant_0 : decode cMo_cant 0 = .ok (.aload_n 0, 1) := by decide +kernel
theorem dMo_cant_1 : decode cMo_cant 1 = .ok (.invokevirtual 211, 3) := by decide +kernel
theorem dMo_cant_4 : decode cMo_cant 4 = .ok (.pop, 1) := by decide +kernel
theorem dMo_cant_5 : decode cMo_cant 5 = .ok (.new 191, 3) := by decide +kernel
theorem dMo_cant_8 : decode cMo_cant 8 = .ok (.dup, 1) := by decide +kernel
theorem dMo_cant_9 : decode cMo_cant 9 = .ok (.iconst 1, 1) := by decide +kernel
theorem dMo_cant_10 : decode cMo_cant 10 = .ok (.aload_n 0, 1) := by decide +kernel
theorem dMo_cant_11 : decode cMo_cant 11 = .ok (.getfield 37, 3) := by decide +kernel
theorem dMo_cant_14 : decode cMo_cant 14 = .ok (.invokespecial 193, 3) := by decide +kernel
theorem dMo_cant_17 : decode cMo_cant 17 = .ok (.areturn, 1) := by decide +kernel
theorem dWr_init_0 : decode cWr_init 0 = .ok (.aload_n 0, 1) := by decide +kernel
theorem dWr_init_1 : decode cWr_init 1 = .ok (.aconst_null, 1) := by decide +kernel
theorem dWr_init_2 : decode cWr_init 2 = .ok (.aconst_null, 1) := by decide +kernel
theorem dWr_init_3 : decode cWr_init 3 = .ok (.iconst 0, 1) := by decide +kernel
theorem dWr_init_4 : decode cWr_init 4 = .ok (.iconst 0, 1) := by decide +kernel
theorem dWr_init_5 : decode cWr_init 5 = .ok (.invokespecial 1, 3) := by decide +kernel
theorem dWr_init_8 : decode cWr_init 8 = .ok (.aload_n 0, 1) := by decide +kernel
theorem dWr_init_9 : decode cWr_init 9 = .ok (.iload_n 1, 1) := by decide +kernel
theorem dWr_init_10 : decode cWr_init 10 = .ok (.putfield 7, 3) := by decide +kernel
theorem dWr_init_13 : decode cWr_init 13 = .ok (.aload_n 0, 1) := by decide +kernel
theorem dWr_init_14 : decode cWr_init 14 = .ok (.iload_n 2, 1) := by decide +kernel
theorem dWr_init_15 : decode cWr_init 15 = .ok (.putfield 13, 3) := by decide +kernel
theorem dWr_init_18 : decode cWr_init 18 = .ok (.return_, 1) := by decide +kernel
theorem dRt_init2_0 : decode cRt_init2 0 = .ok (.aload_n 0, 1) := by decide +kernel
theorem dRt_init2_1 : decode cRt_init2 1 = .ok (.aload_n 1, 1) := by decide +kernel
theorem dRt_init2_2 : decode cRt_init2 2 = .ok (.aload_n 2, 1) := by decide +kernel
theorem dRt_init2_3 : decode cRt_init2 3 = .ok (.iload_n 3, 1) := by decide +kernel
theorem dRt_init2_4 : decode cRt_init2 4 = .ok (.iload 4, 2) := by decide +kernel
theorem dRt_init2_6 : decode cRt_init2 6 = .ok (.invokespecial 16, 3) := by decide +kernel
theorem dRt_init2_9 : decode cRt_init2 9 = .ok (.return_, 1) := by decide +kernel
theorem dXc_init2_0 : decode cXc_init2 0 = .ok (.aload_n 0, 1) := by decide +kernel
theorem dXc_init2_1 : decode cXc_init2 1 = .ok (.aload_n 1, 1) := by decide +kernel
theorem dXc_init2_2 : decode cXc_init2 2 = .ok (.aload_n 2, 1) := by decide +kernel
theorem dXc_init2_3 : decode cXc_init2 3 = .ok (.iload_n 3, 1) := by decide +kernel
theorem dXc_init2_4 : decode cXc_init2 4 = .ok (.iload 4, 2) := by decide +kernel
theorem dXc_init2_6 : decode cXc_init2 6 = .ok (.invokespecial 16, 3) := by decide +kernel
theorem dXc_init2_9 : decode cXc_init2 9 = .ok (.return_, 1) := by decide +kernel
theorem dTh_init3_0 : decode cTh_init3 0 = .ok (.aload_n 0, 1) := by decide +kernel
theorem dTh_init3_1 : decode cTh_init3 1 = .ok (.invokespecial 1, 3) := by decide +kernel
theorem dTh_init3_4 : decode cTh_init3 4 = .ok (.aload_n 0, 1) := by decide +kernel
theorem dTh_init3_5 : decode cTh_init3 5 = .ok (.aload_n 0, 1) := by decide +kernel
theorem dTh_init3_6 : decode cTh_init3 6 = .ok (.putfield 7, 3) := by decide +kernel
theorem dTh_init3_9 : decode cTh_init3 9 = .ok (.aload_n 0, 1) := by decide +kernel
theorem dTh_init3_10 : decode cTh_init3 10 = .ok (.getstatic 13, 3) := by decide +kernel
theorem dTh_init3_13 : decode cTh_init3 13 = .ok (.putfield 17, 3) := by decide +kernel
theorem dTh_init3_16 : decode cTh_init3 16 = .ok (.aload_n 0, 1) := by decide +kernel
theorem dTh_init3_17 : decode cTh_init3 17 = .ok (.getstatic 20, 3) := by decide +kernel
theorem dTh_init3_20 : decode cTh_init3 20 = .ok (.putfield 24, 3) := by decide +kernel
theorem dTh_init3_23 : decode cTh_init3 23 = .ok (.iload 4, 2) := by decide +kernel
theorem dTh_init3_25 : decode cTh_init3 25 = .ok (.ifCond .eq 11, 3) := by decide +kernel
theorem dTh_init3_28 : decode cTh_init3 28 = .ok (.aload_n 0, 1) := by decide +kernel
theorem dTh_init3_29 : decode cTh_init3 29 = .ok (.invokevirtual 27, 3) := by decide +kernel
theorem dTh_init3_32 : decode cTh_init3 32 = .ok (.pop, 1) := by decide +kernel
theorem dTh_init3_33 : decode cTh_init3 33 = .ok (.goto 8, 3) := by decide +kernel
theorem dTh_init3_36 : decode cTh_init3 36 = .ok (.aload_n 0, 1) := by decide +kernel
theorem dTh_init3_37 : decode cTh_init3 37 = .ok (.aconst_null, 1) := by decide +kernel
theorem dTh_init3_38 : decode cTh_init3 38 = .ok (.putfield 17, 3) := by decide +kernel
theorem dTh_init3_41 : decode cTh_init3 41 = .ok (.aload_n 0, 1) := by decide +kernel
theorem dTh_init3_42 : decode cTh_init3 42 = .ok (.aload_n 1, 1) := by decide +kernel
theorem dTh_init3_43 : decode cTh_init3 43 = .ok (.putfield 31, 3) := by decide +kernel
theorem dTh_init3_46 : decode cTh_init3 46 = .ok (.aload_n 0, 1) := by decide +kernel
theorem dTh_init3_47 : decode cTh_init3 47 = .ok (.aload_n 2, 1) := by decide +kernel
theorem dTh_init3_48 : decode cTh_init3 48 = .ok (.putfield 7, 3) := by decide +kernel
theorem dTh_init3_51 : decode cTh_init3 51 = .ok (.iload_n 3, 1) := by decide +kernel
theorem dTh_init3_52 : decode cTh_init3 52 = .ok (.ifCond .ne 8, 3) := by decide +kernel
theorem dTh_init3_55 : decode cTh_init3 55 = .ok (.aload_n 0, 1) := by decide +kernel
theorem dTh_init3_56 : decode cTh_init3 56 = .ok (.aconst_null, 1) := by decide +kernel
theorem dTh_init3_57 : decode cTh_init3 57 = .ok (.putfield 24, 3) := by decide +kernel
theorem dTh_init3_60 : decode cTh_init3 60 = .ok (.return_, 1) := by decide +kernel
