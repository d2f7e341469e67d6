theorem d113_0 : decode (ai_b 113) 0 = .ok (.aload_n 0, 1) := by decide +kernel
theorem d113_1 : decode (ai_b 113) 1 = .ok (.invokespecial 1, 3) := by decide +kernel
theorem d113_4 : decode (ai_b 113) 4 = .ok (.aload_n 0, 1) := by decide +kernel
theorem d113_5 : decode (ai_b 113) 5 = .ok (.bipush 8, 2) := by decide +kernel
theorem d113_7 : decode (ai_b 113) 7 = .ok (.newarray .int, 2) := by decide +kernel
theorem d113_9 : decode (ai_b 113) 9 = .ok (.putfield 7, 3) := by decide +kernel
theorem d113_12 : decode (ai_b 113) 12 = .ok (.aload_n 0, 1) := by decide +kernel
theorem d113_13 : decode (ai_b 113) 13 = .ok (.bipush 8, 2) := by decide +kernel
theorem d113_15 : decode (ai_b 113) 15 = .ok (.newarray .int, 2) := by decide +kernel
theorem d113_17 : decode (ai_b 113) 17 = .ok (.dup, 1) := by decide +kernel
theorem d113_18 : decode (ai_b 113) 18 = .ok (.iconst 0, 1) := by decide +kernel
theorem d113_19 : decode (ai_b 113) 19 = .ok (.iconst (-1), 1) := by decide +kernel
theorem d113_20 : decode (ai_b 113) 20 = .ok (.iastore, 1) := by decide +kernel
theorem d113_21 : decode (ai_b 113) 21 = .ok (.dup, 1) := by decide +kernel
theorem d113_22 : decode (ai_b 113) 22 = .ok (.iconst 1, 1) := by decide +kernel
theorem d113_23 : decode (ai_b 113) 23 = .ok (.iconst (-1), 1) := by decide +kernel
theorem d113_24 : decode (ai_b 113) 24 = .ok (.iastore, 1) := by decide +kernel
theorem d113_25 : decode (ai_b 113) 25 = .ok (.dup, 1) := by decide +kernel
theorem d113_26 : decode (ai_b 113) 26 = .ok (.iconst 2, 1) := by decide +kernel
theorem d113_27 : decode (ai_b 113) 27 = .ok (.iconst (-1), 1) := by decide +kernel
theorem d113_28 : decode (ai_b 113) 28 = .ok (.iastore, 1) := by decide +kernel
theorem d113_29 : decode (ai_b 113) 29 = .ok (.dup, 1) := by decide +kernel
theorem d113_30 : decode (ai_b 113) 30 = .ok (.iconst 3, 1) := by decide +kernel
theorem d113_31 : decode (ai_b 113) 31 = .ok (.iconst (-1), 1) := by decide +kernel
theorem d113_32 : decode (ai_b 113) 32 = .ok (.iastore, 1) := by decide +kernel
theorem d113_33 : decode (ai_b 113) 33 = .ok (.dup, 1) := by decide +kernel
theorem d113_34 : decode (ai_b 113) 34 = .ok (.iconst 4, 1) := by decide +kernel
theorem d113_35 : decode (ai_b 113) 35 = .ok (.iconst (-1), 1) := by decide +kernel
theorem d113_36 : decode (ai_b 113) 36 = .ok (.iastore, 1) := by decide +kernel
theorem d113_37 : decode (ai_b 113) 37 = .ok (.dup, 1) := by decide +kernel
theorem d113_38 : decode (ai_b 113) 38 = .ok (.iconst 5, 1) := by decide +kernel
theorem d113_39 : decode (ai_b 113) 39 = .ok (.iconst (-1), 1) := by decide +kernel
theorem d113_40 : decode (ai_b 113) 40 = .ok (.iastore, 1) := by decide +kernel
theorem d113_41 : decode (ai_b 113) 41 = .ok (.dup, 1) := by decide +kernel
theorem d113_42 : decode (ai_b 113) 42 = .ok (.bipush 6, 2) := by decide +kernel
theorem d113_44 : decode (ai_b 113) 44 = .ok (.iconst (-1), 1) := by decide +kernel
theorem d113_45 : decode (ai_b 113) 45 = .ok (.iastore, 1) := by decide +kernel
theorem d113_46 : decode (ai_b 113) 46 = .ok (.dup, 1) := by decide +kernel
theorem d113_47 : decode (ai_b 113) 47 = .ok (.bipush 7, 2) := by decide +kernel
theorem d113_49 : decode (ai_b 113) 49 = .ok (.iconst (-1), 1) := by decide +kernel
theorem d113_50 : decode (ai_b 113) 50 = .ok (.iastore, 1) := by decide +kernel
theorem d113_51 : decode (ai_b 113) 51 = .ok (.putfield 13, 3) := by decide +kernel
theorem d113_54 : decode (ai_b 113) 54 = .ok (.aload_n 0, 1) := by decide +kernel
theorem d113_55 : decode (ai_b 113) 55 = .ok (.bipush 8, 2) := by decide +kernel
theorem d113_57 : decode (ai_b 113) 57 = .ok (.newarray .int, 2) := by decide +kernel
theorem d113_59 : decode (ai_b 113) 59 = .ok (.putfield 16, 3) := by decide +kernel
theorem d113_62 : decode (ai_b 113) 62 = .ok (.aload_n 0, 1) := by decide +kernel
theorem d113_63 : decode (ai_b 113) 63 = .ok (.sipush 800, 3) := by decide +kernel
theorem d113_66 : decode (ai_b 113) 66 = .ok (.newarray .long, 2) := by decide +kernel
theorem d113_68 : decode (ai_b 113) 68 = .ok (.putfield 19, 3) := by decide +kernel
theorem d113_71 : decode (ai_b 113) 71 = .ok (.aload_n 0, 1) := by decide +kernel
theorem d113_72 : decode (ai_b 113) 72 = .ok (.bipush 100, 2) := by decide +kernel
theorem d113_74 : decode (ai_b 113) 74 = .ok (.newarray .long, 2) := by decide +kernel
theorem d113_76 : decode (ai_b 113) 76 = .ok (.putfield 23, 3) := by decide +kernel
theorem d113_79 : decode (ai_b 113) 79 = .ok (.aload_n 0, 1) := by decide +kernel
theorem d113_80 : decode (ai_b 113) 80 = .ok (.iconst 0, 1) := by decide +kernel
theorem d113_81 : decode (ai_b 113) 81 = .ok (.putfield 26, 3) := by decide +kernel
theorem d113_84 : decode (ai_b 113) 84 = .ok (.aload_n 0, 1) := by decide +kernel
theorem d113_85 : decode (ai_b 113) 85 = .ok (.iconst 0, 1) := by decide +kernel
theorem d113_86 : decode (ai_b 113) 86 = .ok (.putfield 30, 3) := by decide +kernel
theorem d113_89 : decode (ai_b 113) 89 = .ok (.aload_n 0, 1) := by decide +kernel
theorem d113_90 : decode (ai_b 113) 90 = .ok (.iconst 0, 1) := by decide +kernel
theorem d113_91 : decode (ai_b 113) 91 = .ok (.putfield 33, 3) := by decide +kernel
theorem d113_94 : decode (ai_b 113) 94 = .ok (.aload_n 0, 1) := by decide +kernel
theorem d113_95 : decode (ai_b 113) 95 = .ok (.iconst 5, 1) := by decide +kernel
theorem d113_96 : decode (ai_b 113) 96 = .ok (.newarray .int, 2) := by decide +kernel
theorem d113_98 : decode (ai_b 113) 98 = .ok (.putfield 36, 3) := by decide +kernel
theorem d113_101 : decode (ai_b 113) 101 = .ok (.aload_n 0, 1) := by decide +kernel
theorem d113_102 : decode (ai_b 113) 102 = .ok (.iconst 5, 1) := by decide +kernel
theorem d113_103 : decode (ai_b 113) 103 = .ok (.newarray .int, 2) := by decide +kernel
theorem d113_105 : decode (ai_b 113) 105 = .ok (.putfield 39, 3) := by decide +kernel
theorem d113_108 : decode (ai_b 113) 108 = .ok (.aload_n 0, 1) := by decide +kernel
theorem d113_109 : decode (ai_b 113) 109 = .ok (.iconst 5, 1) := by decide +kernel
theorem d113_110 : decode (ai_b 113) 110 = .ok (.newarray .int, 2) := by decide +kernel
theorem d113_112 : decode (ai_b 113) 112 = .ok (.putfield 42, 3) := by decide +kernel
theorem d113_115 : decode (ai_b 113) 115 = .ok (.aload_n 0, 1) := by decide +kernel
theorem d113_116 : decode (ai_b 113) 116 = .ok (.sipush 200, 3) := by decide +kernel
theorem d113_119 : decode (ai_b 113) 119 = .ok (.newarray .int, 2) := by decide +kernel
theorem d113_121 : decode (ai_b 113) 121 = .ok (.putfield 45, 3) := by decide +kernel
theorem d113_124 : decode (ai_b 113) 124 = .ok (.aload_n 0, 1) := by decide +kernel
theorem d113_125 : decode (ai_b 113) 125 = .ok (.sipush 200, 3) := by decide +kernel
theorem d113_128 : decode (ai_b 113) 128 = .ok (.newarray .int, 2) := by decide +kernel
theorem d113_130 : decode (ai_b 113) 130 = .ok (.putfield 48, 3) := by decide +kernel
theorem d113_133 : decode (ai_b 113) 133 = .ok (.aload_n 0, 1) := by decide +kernel
theorem d113_134 : decode (ai_b 113) 134 = .ok (.bipush 24, 2) := by decide +kernel
theorem d113_136 : decode (ai_b 113) 136 = .ok (.newarray .boolean, 2) := by decide +kernel
theorem d113_138 : decode (ai_b 113) 138 = .ok (.putfield 51, 3) := by decide +kernel
theorem d113_141 : decode (ai_b 113) 141 = .ok (.aload_n 0, 1) := by decide +kernel
theorem d113_142 : decode (ai_b 113) 142 = .ok (.bipush 24, 2) := by decide +kernel
theorem d113_144 : decode (ai_b 113) 144 = .ok (.newarray .int, 2) := by decide +kernel
theorem d113_146 : decode (ai_b 113) 146 = .ok (.putfield 55, 3) := by decide +kernel
theorem d113_149 : decode (ai_b 113) 149 = .ok (.aload_n 0, 1) := by decide +kernel
theorem d113_150 : decode (ai_b 113) 150 = .ok (.bipush 24, 2) := by decide +kernel
theorem d113_152 : decode (ai_b 113) 152 = .ok (.newarray .int, 2) := by decide +kernel
theorem d113_154 : decode (ai_b 113) 154 = .ok (.putfield 58, 3) := by decide +kernel
theorem d113_157 : decode (ai_b 113) 157 = .ok (.aload_n 0, 1) := by decide +kernel
theorem d113_158 : decode (ai_b 113) 158 = .ok (.sipush 4800, 3) := by decide +kernel
theorem d113_161 : decode (ai_b 113) 161 = .ok (.newarray .int, 2) := by decide +kernel
theorem d113_163 : decode (ai_b 113) 163 = .ok (.putfield 61, 3) := by decide +kernel
theorem d113_166 : decode (ai_b 113) 166 = .ok (.aload_n 0, 1) := by decide +kernel
theorem d113_167 : decode (ai_b 113) 167 = .ok (.sipush 4800, 3) := by decide +kernel
theorem d113_170 : decode (ai_b 113) 170 = .ok (.newarray .int, 2) := by decide +kernel
theorem d113_172 : decode (ai_b 113) 172 = .ok (.putfield 64, 3) := by decide +kernel
theorem d113_175 : decode (ai_b 113) 175 = .ok (.aload_n 0, 1) := by decide +kernel
theorem d113_176 : decode (ai_b 113) 176 = .ok (.sipush 4800, 3) := by decide +kernel
theorem d113_179 : decode (ai_b 113) 179 = .ok (.newarray .boolean, 2) := by decide +kernel
theorem d113_181 : decode (ai_b 113) 181 = .ok (.putfield 67, 3) := by decide +kernel
theorem d113_184 : decode (ai_b 113) 184 = .ok (.aload_n 0, 1) := by decide +kernel
theorem d113_185 : decode (ai_b 113) 185 = .ok (.bipush 24, 2) := by decide +kernel
theorem d113_187 : decode (ai_b 113) 187 = .ok (.newarray .int, 2) := by decide +kernel
theorem d113_189 : decode (ai_b 113) 189 = .ok (.putfield 70, 3) := by decide +kernel
theorem d113_192 : decode (ai_b 113) 192 = .ok (.aload_n 0, 1) := by decide +kernel
theorem d113_193 : decode (ai_b 113) 193 = .ok (.iconst 1, 1) := by decide +kernel
theorem d113_194 : decode (ai_b 113) 194 = .ok (.putfield 73, 3) := by decide +kernel
theorem d113_197 : decode (ai_b 113) 197 = .ok (.aload_n 0, 1) := by decide +kernel
theorem d113_198 : decode (ai_b 113) 198 = .ok (.sipush 950, 3) := by decide +kernel
theorem d113_201 : decode (ai_b 113) 201 = .ok (.putfield 77, 3) := by decide +kernel
theorem d113_204 : decode (ai_b 113) 204 = .ok (.aload_n 0, 1) := by decide +kernel
theorem d113_205 : decode (ai_b 113) 205 = .ok (.bipush 12, 2) := by decide +kernel
theorem d113_207 : decode (ai_b 113) 207 = .ok (.putfield 80, 3) := by decide +kernel
theorem d113_210 : decode (ai_b 113) 210 = .ok (.aload_n 0, 1) := by decide +kernel
theorem d113_211 : decode (ai_b 113) 211 = .ok (.iconst 3, 1) := by decide +kernel
theorem d113_212 : decode (ai_b 113) 212 = .ok (.putfield 83, 3) := by decide +kernel
theorem d113_215 : decode (ai_b 113) 215 = .ok (.aload_n 0, 1) := by decide +kernel
theorem d113_216 : decode (ai_b 113) 216 = .ok (.sipush 1920, 3) := by decide +kernel
theorem d113_219 : decode (ai_b 113) 219 = .ok (.newarray .int, 2) := by decide +kernel
theorem d113_221 : decode (ai_b 113) 221 = .ok (.putfield 86, 3) := by decide +kernel
theorem d113_224 : decode (ai_b 113) 224 = .ok (.aload_n 0, 1) := by decide +kernel
theorem d113_225 : decode (ai_b 113) 225 = .ok (.sipush 480, 3) := by decide +kernel
theorem d113_228 : decode (ai_b 113) 228 = .ok (.newarray .int, 2) := by decide +kernel
theorem d113_230 : decode (ai_b 113) 230 = .ok (.putfield 89, 3) := by decide +kernel
theorem d113_233 : decode (ai_b 113) 233 = .ok (.aload_n 0, 1) := by decide +kernel
theorem d113_234 : decode (ai_b 113) 234 = .ok (.sipush 27200, 3) := by decide +kernel
theorem d113_237 : decode (ai_b 113) 237 = .ok (.newarray .int, 2) := by decide +kernel
theorem d113_239 : decode (ai_b 113) 239 = .ok (.putfield 92, 3) := by decide +kernel
theorem d113_242 : decode (ai_b 113) 242 = .ok (.aload_n 0, 1) := by decide +kernel
theorem d113_243 : decode (ai_b 113) 243 = .ok (.bipush 16, 2) := by decide +kernel
theorem d113_245 : decode (ai_b 113) 245 = .ok (.newarray .int, 2) := by decide +kernel
theorem d113_247 : decode (ai_b 113) 247 = .ok (.putfield 95, 3) := by decide +kernel
theorem d113_250 : decode (ai_b 113) 250 = .ok (.aload_n 0, 1) := by decide +kernel
theorem d113_251 : decode (ai_b 113) 251 = .ok (.bipush 30, 2) := by decide +kernel
theorem d113_253 : decode (ai_b 113) 253 = .ok (.newarray .int, 2) := by decide +kernel
theorem d113_255 : decode (ai_b 113) 255 = .ok (.putfield 98, 3) := by decide +kernel
theorem d113_258 : decode (ai_b 113) 258 = .ok (.aload_n 0, 1) := by decide +kernel
theorem d113_259 : decode (ai_b 113) 259 = .ok (.iconst 0, 1) := by decide +kernel
theorem d113_260 : decode (ai_b 113) 260 = .ok (.putfield 101, 3) := by decide +kernel
theorem d113_263 : decode (ai_b 113) 263 = .ok (.aload_n 0, 1) := by decide +kernel
theorem d113_264 : decode (ai_b 113) 264 = .ok (.sipush 200, 3) := by decide +kernel
theorem d113_267 : decode (ai_b 113) 267 = .ok (.newarray .int, 2) := by decide +kernel
theorem d113_269 : decode (ai_b 113) 269 = .ok (.putfield 104, 3) := by decide +kernel
theorem d113_272 : decode (ai_b 113) 272 = .ok (.aload_n 0, 1) := by decide +kernel
theorem d113_273 : decode (ai_b 113) 273 = .ok (.sipush 200, 3) := by decide +kernel
theorem d113_276 : decode (ai_b 113) 276 = .ok (.newarray .boolean, 2) := by decide +kernel
theorem d113_278 : decode (ai_b 113) 278 = .ok (.putfield 107, 3) := by decide +kernel
theorem d113_281 : decode (ai_b 113) 281 = .ok (.aload_n 0, 1) := by decide +kernel
theorem d113_282 : decode (ai_b 113) 282 = .ok (.sipush 200, 3) := by decide +kernel
theorem d113_285 : decode (ai_b 113) 285 = .ok (.newarray .boolean, 2) := by decide +kernel
theorem d113_287 : decode (ai_b 113) 287 = .ok (.putfield 110, 3) := by decide +kernel
theorem d113_290 : decode (ai_b 113) 290 = .ok (.return_, 1) := by decide +kernel
theorem d114_0 : decode (ai_b 114) 0 = .ok (.iload_n 1, 1) := by decide +kernel
theorem d114_1 : decode (ai_b 114) 1 = .ok (.iload_n 2, 1) := by decide +kernel
theorem d114_2 : decode (ai_b 114) 2 = .ok (.if_icmp .lt 12, 3) := by decide +kernel
theorem d114_5 : decode (ai_b 114) 5 = .ok (.iload_n 1, 1) := by decide +kernel
theorem d114_6 : decode (ai_b 114) 6 = .ok (.iload_n 3, 1) := by decide +kernel
theorem d114_7 : decode (ai_b 114) 7 = .ok (.if_icmp .gt 7, 3) := by decide +kernel
theorem d114_10 : decode (ai_b 114) 10 = .ok (.iconst 1, 1) := by decide +kernel
theorem d114_11 : decode (ai_b 114) 11 = .ok (.goto 4, 3) := by decide +kernel
theorem d114_14 : decode (ai_b 114) 14 = .ok (.iconst 0, 1) := by decide +kernel
theorem d114_15 : decode (ai_b 114) 15 = .ok (.ireturn, 1) := by decide +kernel
theorem d115_0 : decode (ai_b 115) 0 = .ok (.aload_n 0, 1) := by decide +kernel
theorem d115_1 : decode (ai_b 115) 1 = .ok (.getfield 7, 3) := by decide +kernel
theorem d115_4 : decode (ai_b 115) 4 = .ok (.iload_n 1, 1) := by decide +kernel
theorem d115_5 : decode (ai_b 115) 5 = .ok (.ineg, 1) := by decide +kernel
theorem d115_6 : decode (ai_b 115) 6 = .ok (.dup2, 1) := by decide +kernel
theorem d115_7 : decode (ai_b 115) 7 = .ok (.iaload, 1) := by decide +kernel
theorem d115_8 : decode (ai_b 115) 8 = .ok (.iconst 1, 1) := by decide +kernel
theorem d115_9 : decode (ai_b 115) 9 = .ok (.iadd, 1) := by decide +kernel
theorem d115_10 : decode (ai_b 115) 10 = .ok (.iastore, 1) := by decide +kernel
theorem d115_11 : decode (ai_b 115) 11 = .ok (.iload_n 1, 1) := by decide +kernel
theorem d115_12 : decode (ai_b 115) 12 = .ok (.ireturn, 1) := by decide +kernel
theorem d116_0 : decode (ai_b 116) 0 = .ok (.aload_n 0, 1) := by decide +kernel
theorem d116_1 : decode (ai_b 116) 1 = .ok (.iload_n 1, 1) := by decide +kernel
theorem d116_2 : decode (ai_b 116) 2 = .ok (.iconst 0, 1) := by decide +kernel
theorem d116_3 : decode (ai_b 116) 3 = .ok (.bipush 7, 2) := by decide +kernel
theorem d116_5 : decode (ai_b 116) 5 = .ok (.invokevirtual 113, 3) := by decide +kernel
theorem d116_8 : decode (ai_b 116) 8 = .ok (.ireturn, 1) := by decide +kernel
theorem d117_0 : decode (ai_b 117) 0 = .ok (.aload_n 0, 1) := by decide +kernel
theorem d117_1 : decode (ai_b 117) 1 = .ok (.getfield 13, 3) := by decide +kernel
theorem d117_4 : decode (ai_b 117) 4 = .ok (.iload_n 1, 1) := by decide +kernel
theorem d117_5 : decode (ai_b 117) 5 = .ok (.iaload, 1) := by decide +kernel
theorem d117_6 : decode (ai_b 117) 6 = .ok (.bipush 100, 2) := by decide +kernel
theorem d117_8 : decode (ai_b 117) 8 = .ok (.if_icmp .lt 7, 3) := by decide +kernel
theorem d117_11 : decode (ai_b 117) 11 = .ok (.iconst 1, 1) := by decide +kernel
theorem d117_12 : decode (ai_b 117) 12 = .ok (.goto 4, 3) := by decide +kernel
theorem d117_15 : decode (ai_b 117) 15 = .ok (.iconst 0, 1) := by decide +kernel
theorem d117_16 : decode (ai_b 117) 16 = .ok (.ireturn, 1) := by decide +kernel
theorem d118_0 : decode (ai_b 118) 0 = .ok (.iload_n 1, 1) := by decide +kernel
theorem d118_1 : decode (ai_b 118) 1 = .ok (.ifCond .ne 10, 3) := by decide +kernel
theorem d118_4 : decode (ai_b 118) 4 = .ok (.lload_n 2, 1) := by decide +kernel
theorem d118_5 : decode (ai_b 118) 5 = .ok (.l2i, 1) := by decide +kernel
theorem d118_6 : decode (ai_b 118) 6 = .ok (.i2b, 1) := by decide +kernel
theorem d118_7 : decode (ai_b 118) 7 = .ok (.i2l, 1) := by decide +kernel
theorem d118_8 : decode (ai_b 118) 8 = .ok (.goto 27, 3) := by decide +kernel
theorem d118_11 : decode (ai_b 118) 11 = .ok (.iload_n 1, 1) := by decide +kernel
theorem d118_12 : decode (ai_b 118) 12 = .ok (.iconst 1, 1) := by decide +kernel
theorem d118_13 : decode (ai_b 118) 13 = .ok (.if_icmp .ne 10, 3) := by decide +kernel
theorem d118_16 : decode (ai_b 118) 16 = .ok (.lload_n 2, 1) := by decide +kernel
theorem d118_17 : decode (ai_b 118) 17 = .ok (.l2i, 1) := by decide +kernel
theorem d118_18 : decode (ai_b 118) 18 = .ok (.i2s, 1) := by decide +kernel
theorem d118_19 : decode (ai_b 118) 19 = .ok (.i2l, 1) := by decide +kernel
theorem d118_20 : decode (ai_b 118) 20 = .ok (.goto 15, 3) := by decide +kernel
theorem d118_23 : decode (ai_b 118) 23 = .ok (.iload_n 1, 1) := by decide +kernel
theorem d118_24 : decode (ai_b 118) 24 = .ok (.iconst 2, 1) := by decide +kernel
theorem d118_25 : decode (ai_b 118) 25 = .ok (.if_icmp .ne 9, 3) := by decide +kernel
theorem d118_28 : decode (ai_b 118) 28 = .ok (.lload_n 2, 1) := by decide +kernel
theorem d118_29 : decode (ai_b 118) 29 = .ok (.l2i, 1) := by decide +kernel
theorem d118_30 : decode (ai_b 118) 30 = .ok (.i2l, 1) := by decide +kernel
theorem d118_31 : decode (ai_b 118) 31 = .ok (.goto 4, 3) := by decide +kernel
theorem d118_34 : decode (ai_b 118) 34 = .ok (.lload_n 2, 1) := by decide +kernel
theorem d118_35 : decode (ai_b 118) 35 = .ok (.lreturn, 1) := by decide +kernel
theorem d119_0 : decode (ai_b 119) 0 = .ok (.aload_n 0, 1) := by decide +kernel
theorem d119_1 : decode (ai_b 119) 1 = .ok (.iload_n 1, 1) := by decide +kernel
theorem d119_2 : decode (ai_b 119) 2 = .ok (.invokevirtual 117, 3) := by decide +kernel
theorem d119_5 : decode (ai_b 119) 5 = .ok (.ifCond .ne 9, 3) := by decide +kernel
theorem d119_8 : decode (ai_b 119) 8 = .ok (.aload_n 0, 1) := by decide +kernel
theorem d119_9 : decode (ai_b 119) 9 = .ok (.iconst (-1), 1) := by decide +kernel
theorem d119_10 : decode (ai_b 119) 10 = .ok (.invokevirtual 121, 3) := by decide +kernel
theorem d119_13 : decode (ai_b 119) 13 = .ok (.ireturn, 1) := by decide +kernel
theorem d119_14 : decode (ai_b 119) 14 = .ok (.iload_n 3, 1) := by decide +kernel
theorem d119_15 : decode (ai_b 119) 15 = .ok (.ifCond .ge 10, 3) := by decide +kernel
theorem d119_18 : decode (ai_b 119) 18 = .ok (.aload_n 0, 1) := by decide +kernel
theorem d119_19 : decode (ai_b 119) 19 = .ok (.bipush (-4), 2) := by decide +kernel
theorem d119_21 : decode (ai_b 119) 21 = .ok (.invokevirtual 121, 3) := by decide +kernel
theorem d119_24 : decode (ai_b 119) 24 = .ok (.ireturn, 1) := by decide +kernel
theorem d119_25 : decode (ai_b 119) 25 = .ok (.aload_n 0, 1) := by decide +kernel
theorem d119_26 : decode (ai_b 119) 26 = .ok (.iload_n 2, 1) := by decide +kernel
theorem d119_27 : decode (ai_b 119) 27 = .ok (.iconst 0, 1) := by decide +kernel
theorem d119_28 : decode (ai_b 119) 28 = .ok (.iconst 3, 1) := by decide +kernel
theorem d119_29 : decode (ai_b 119) 29 = .ok (.invokevirtual 113, 3) := by decide +kernel
theorem d119_32 : decode (ai_b 119) 32 = .ok (.ifCond .ne 10, 3) := by decide +kernel
theorem d119_35 : decode (ai_b 119) 35 = .ok (.aload_n 0, 1) := by decide +kernel
theorem d119_36 : decode (ai_b 119) 36 = .ok (.bipush (-6), 2) := by decide +kernel
theorem d119_38 : decode (ai_b 119) 38 = .ok (.invokevirtual 121, 3) := by decide +kernel
theorem d119_41 : decode (ai_b 119) 41 = .ok (.ireturn, 1) := by decide +kernel
theorem d119_42 : decode (ai_b 119) 42 = .ok (.iload_n 3, 1) := by decide +kernel
theorem d119_43 : decode (ai_b 119) 43 = .ok (.bipush 100, 2) := by decide +kernel
theorem d119_45 : decode (ai_b 119) 45 = .ok (.if_icmp .le 10, 3) := by decide +kernel
theorem d119_48 : decode (ai_b 119) 48 = .ok (.aload_n 0, 1) := by decide +kernel
theorem d119_49 : decode (ai_b 119) 49 = .ok (.bipush (-7), 2) := by decide +kernel
theorem d119_51 : decode (ai_b 119) 51 = .ok (.invokevirtual 121, 3) := by decide +kernel
theorem d119_54 : decode (ai_b 119) 54 = .ok (.ireturn, 1) := by decide +kernel
theorem d119_55 : decode (ai_b 119) 55 = .ok (.aload_n 0, 1) := by decide +kernel
theorem d119_56 : decode (ai_b 119) 56 = .ok (.getfield 13, 3) := by decide +kernel
theorem d119_59 : decode (ai_b 119) 59 = .ok (.iload_n 1, 1) := by decide +kernel
theorem d119_60 : decode (ai_b 119) 60 = .ok (.bipush 100, 2) := by decide +kernel
theorem d119_62 : decode (ai_b 119) 62 = .ok (.iload_n 2, 1) := by decide +kernel
theorem d119_63 : decode (ai_b 119) 63 = .ok (.iadd, 1) := by decide +kernel
theorem d119_64 : decode (ai_b 119) 64 = .ok (.iastore, 1) := by decide +kernel
theorem d119_65 : decode (ai_b 119) 65 = .ok (.aload_n 0, 1) := by decide +kernel
theorem d119_66 : decode (ai_b 119) 66 = .ok (.getfield 16, 3) := by decide +kernel
theorem d119_69 : decode (ai_b 119) 69 = .ok (.iload_n 1, 1) := by decide +kernel
theorem d119_70 : decode (ai_b 119) 70 = .ok (.iload_n 3, 1) := by decide +kernel
theorem d119_71 : decode (ai_b 119) 71 = .ok (.iastore, 1) := by decide +kernel
theorem d119_72 : decode (ai_b 119) 72 = .ok (.iconst 0, 1) := by decide +kernel
theorem d119_73 : decode (ai_b 119) 73 = .ok (.istore 4, 2) := by decide +kernel
theorem d119_75 : decode (ai_b 119) 75 = .ok (.iload 4, 2) := by decide +kernel
theorem d119_77 : decode (ai_b 119) 77 = .ok (.bipush 100, 2) := by decide +kernel
theorem d119_79 : decode (ai_b 119) 79 = .ok (.if_icmp .ge 22, 3) := by decide +kernel
theorem d119_82 : decode (ai_b 119) 82 = .ok (.aload_n 0, 1) := by decide +kernel
theorem d119_83 : decode (ai_b 119) 83 = .ok (.getfield 19, 3) := by decide +kernel
theorem d119_86 : decode (ai_b 119) 86 = .ok (.bipush 100, 2) := by decide +kernel
theorem d119_88 : decode (ai_b 119) 88 = .ok (.iload_n 1, 1) := by decide +kernel
theorem d119_89 : decode (ai_b 119) 89 = .ok (.imul, 1) := by decide +kernel
theorem d119_90 : decode (ai_b 119) 90 = .ok (.iload 4, 2) := by decide +kernel
theorem d119_92 : decode (ai_b 119) 92 = .ok (.iadd, 1) := by decide +kernel
theorem d119_93 : decode (ai_b 119) 93 = .ok (.lconst 0, 1) := by decide +kernel
theorem d119_94 : decode (ai_b 119) 94 = .ok (.lastore, 1) := by decide +kernel
theorem d119_95 : decode (ai_b 119) 95 = .ok (.iinc 4 1, 3) := by decide +kernel
theorem d119_98 : decode (ai_b 119) 98 = .ok (.goto (-23), 3) := by decide +kernel
theorem d119_101 : decode (ai_b 119) 101 = .ok (.iconst 1, 1) := by decide +kernel
theorem d119_102 : decode (ai_b 119) 102 = .ok (.ireturn, 1) := by decide +kernel
theorem d120_0 : decode (ai_b 120) 0 = .ok (.aload_n 0, 1) := by decide +kernel
theorem d120_1 : decode (ai_b 120) 1 = .ok (.iload_n 1, 1) := by decide +kernel
theorem d120_2 : decode (ai_b 120) 2 = .ok (.invokevirtual 117, 3) := by decide +kernel
theorem d120_5 : decode (ai_b 120) 5 = .ok (.ifCond .ne 9, 3) := by decide +kernel
theorem d120_8 : decode (ai_b 120) 8 = .ok (.aload_n 0, 1) := by decide +kernel
theorem d120_9 : decode (ai_b 120) 9 = .ok (.iconst (-1), 1) := by decide +kernel
theorem d120_10 : decode (ai_b 120) 10 = .ok (.invokevirtual 121, 3) := by decide +kernel
theorem d120_13 : decode (ai_b 120) 13 = .ok (.ireturn, 1) := by decide +kernel
theorem d120_14 : decode (ai_b 120) 14 = .ok (.aload_n 0, 1) := by decide +kernel
theorem d120_15 : decode (ai_b 120) 15 = .ok (.getfield 13, 3) := by decide +kernel
theorem d120_18 : decode (ai_b 120) 18 = .ok (.iload_n 1, 1) := by decide +kernel
theorem d120_19 : decode (ai_b 120) 19 = .ok (.iaload, 1) := by decide +kernel
theorem d120_20 : decode (ai_b 120) 20 = .ok (.ifCond .lt 18, 3) := by decide +kernel
theorem d120_23 : decode (ai_b 120) 23 = .ok (.aload_n 0, 1) := by decide +kernel
theorem d120_24 : decode (ai_b 120) 24 = .ok (.iload_n 1, 1) := by decide +kernel
theorem d120_25 : decode (ai_b 120) 25 = .ok (.invokevirtual 125, 3) := by decide +kernel
theorem d120_28 : decode (ai_b 120) 28 = .ok (.ifCond .ne 10, 3) := by decide +kernel
theorem d120_31 : decode (ai_b 120) 31 = .ok (.aload_n 0, 1) := by decide +kernel
theorem d120_32 : decode (ai_b 120) 32 = .ok (.bipush (-2), 2) := by decide +kernel
theorem d120_34 : decode (ai_b 120) 34 = .ok (.invokevirtual 121, 3) := by decide +kernel
theorem d120_37 : decode (ai_b 120) 37 = .ok (.ireturn, 1) := by decide +kernel
theorem d120_38 : decode (ai_b 120) 38 = .ok (.aload_n 0, 1) := by decide +kernel
theorem d120_39 : decode (ai_b 120) 39 = .ok (.getfield 13, 3) := by decide +kernel
theorem d120_42 : decode (ai_b 120) 42 = .ok (.iload_n 1, 1) := by decide +kernel
theorem d120_43 : decode (ai_b 120) 43 = .ok (.iaload, 1) := by decide +kernel
theorem d120_44 : decode (ai_b 120) 44 = .ok (.ifCond .ge 10, 3) := by decide +kernel
theorem d120_47 : decode (ai_b 120) 47 = .ok (.aload_n 0, 1) := by decide +kernel
theorem d120_48 : decode (ai_b 120) 48 = .ok (.bipush (-3), 2) := by decide +kernel
theorem d120_50 : decode (ai_b 120) 50 = .ok (.invokevirtual 121, 3) := by decide +kernel
theorem d120_53 : decode (ai_b 120) 53 = .ok (.ireturn, 1) := by decide +kernel
theorem d120_54 : decode (ai_b 120) 54 = .ok (.aload_n 0, 1) := by decide +kernel
theorem d120_55 : decode (ai_b 120) 55 = .ok (.iload_n 2, 1) := by decide +kernel
theorem d120_56 : decode (ai_b 120) 56 = .ok (.iconst 0, 1) := by decide +kernel
theorem d120_57 : decode (ai_b 120) 57 = .ok (.aload_n 0, 1) := by decide +kernel
theorem d120_58 : decode (ai_b 120) 58 = .ok (.getfield 16, 3) := by decide +kernel
theorem d120_61 : decode (ai_b 120) 61 = .ok (.iload_n 1, 1) := by decide +kernel
theorem d120_62 : decode (ai_b 120) 62 = .ok (.iaload, 1) := by decide +kernel
theorem d120_63 : decode (ai_b 120) 63 = .ok (.iconst 1, 1) := by decide +kernel
theorem d120_64 : decode (ai_b 120) 64 = .ok (.isub, 1) := by decide +kernel
theorem d120_65 : decode (ai_b 120) 65 = .ok (.invokevirtual 113, 3) := by decide +kernel
theorem d120_68 : decode (ai_b 120) 68 = .ok (.ifCond .ne 10, 3) := by decide +kernel
theorem d120_71 : decode (ai_b 120) 71 = .ok (.aload_n 0, 1) := by decide +kernel
theorem d120_72 : decode (ai_b 120) 72 = .ok (.bipush (-5), 2) := by decide +kernel
theorem d120_74 : decode (ai_b 120) 74 = .ok (.invokevirtual 121, 3) := by decide +kernel
theorem d120_77 : decode (ai_b 120) 77 = .ok (.ireturn, 1) := by decide +kernel
theorem d120_78 : decode (ai_b 120) 78 = .ok (.aload_n 0, 1) := by decide +kernel
theorem d120_79 : decode (ai_b 120) 79 = .ok (.getfield 19, 3) := by decide +kernel
theorem d120_82 : decode (ai_b 120) 82 = .ok (.bipush 100, 2) := by decide +kernel
theorem d120_84 : decode (ai_b 120) 84 = .ok (.iload_n 1, 1) := by decide +kernel
theorem d120_85 : decode (ai_b 120) 85 = .ok (.imul, 1) := by decide +kernel
theorem d120_86 : decode (ai_b 120) 86 = .ok (.iload_n 2, 1) := by decide +kernel
theorem d120_87 : decode (ai_b 120) 87 = .ok (.iadd, 1) := by decide +kernel
theorem d120_88 : decode (ai_b 120) 88 = .ok (.aload_n 0, 1) := by decide +kernel
theorem d120_89 : decode (ai_b 120) 89 = .ok (.aload_n 0, 1) := by decide +kernel
theorem d120_90 : decode (ai_b 120) 90 = .ok (.getfield 13, 3) := by decide +kernel
theorem d120_93 : decode (ai_b 120) 93 = .ok (.iload_n 1, 1) := by decide +kernel
theorem d120_94 : decode (ai_b 120) 94 = .ok (.iaload, 1) := by decide +kernel
theorem d120_95 : decode (ai_b 120) 95 = .ok (.bipush 100, 2) := by decide +kernel
theorem d120_97 : decode (ai_b 120) 97 = .ok (.isub, 1) := by decide +kernel
theorem d120_98 : decode (ai_b 120) 98 = .ok (.lload_n 3, 1) := by decide +kernel
theorem d120_99 : decode (ai_b 120) 99 = .ok (.invokevirtual 128, 3) := by decide +kernel
theorem d120_102 : decode (ai_b 120) 102 = .ok (.lastore, 1) := by decide +kernel
theorem d120_103 : decode (ai_b 120) 103 = .ok (.iconst 1, 1) := by decide +kernel
theorem d120_104 : decode (ai_b 120) 104 = .ok (.ireturn, 1) := by decide +kernel
theorem d121_0 : decode (ai_b 121) 0 = .ok (.aload_n 0, 1) := by decide +kernel
theorem d121_1 : decode (ai_b 121) 1 = .ok (.iload_n 1, 1) := by decide +kernel
theorem d121_2 : decode (ai_b 121) 2 = .ok (.invokevirtual 117, 3) := by decide +kernel
theorem d121_5 : decode (ai_b 121) 5 = .ok (.ifCond .eq 11, 3) := by decide +kernel
theorem d121_8 : decode (ai_b 121) 8 = .ok (.aload_n 0, 1) := by decide +kernel
theorem d121_9 : decode (ai_b 121) 9 = .ok (.iload_n 2, 1) := by decide +kernel
theorem d121_10 : decode (ai_b 121) 10 = .ok (.invokevirtual 117, 3) := by decide +kernel
theorem d121_13 : decode (ai_b 121) 13 = .ok (.ifCond .ne 9, 3) := by decide +kernel
theorem d121_16 : decode (ai_b 121) 16 = .ok (.aload_n 0, 1) := by decide +kernel
theorem d121_17 : decode (ai_b 121) 17 = .ok (.iconst (-1), 1) := by decide +kernel
theorem d121_18 : decode (ai_b 121) 18 = .ok (.invokevirtual 121, 3) := by decide +kernel
theorem d121_21 : decode (ai_b 121) 21 = .ok (.ireturn, 1) := by decide +kernel
theorem d121_22 : decode (ai_b 121) 22 = .ok (.aload_n 0, 1) := by decide +kernel
theorem d121_23 : decode (ai_b 121) 23 = .ok (.aload_n 0, 1) := by decide +kernel
theorem d121_24 : decode (ai_b 121) 24 = .ok (.getfield 13, 3) := by decide +kernel
theorem d121_27 : decode (ai_b 121) 27 = .ok (.iload_n 1, 1) := by decide +kernel
theorem d121_28 : decode (ai_b 121) 28 = .ok (.iaload, 1) := by decide +kernel
theorem d121_29 : decode (ai_b 121) 29 = .ok (.iconst 0, 1) := by decide +kernel
theorem d121_30 : decode (ai_b 121) 30 = .ok (.bipush 99, 2) := by decide +kernel
theorem d121_32 : decode (ai_b 121) 32 = .ok (.invokevirtual 113, 3) := by decide +kernel
theorem d121_35 : decode (ai_b 121) 35 = .ok (.ifCond .ne 19, 3) := by decide +kernel
theorem d121_38 : decode (ai_b 121) 38 = .ok (.aload_n 0, 1) := by decide +kernel
theorem d121_39 : decode (ai_b 121) 39 = .ok (.aload_n 0, 1) := by decide +kernel
theorem d121_40 : decode (ai_b 121) 40 = .ok (.getfield 13, 3) := by decide +kernel
theorem d121_43 : decode (ai_b 121) 43 = .ok (.iload_n 2, 1) := by decide +kernel
theorem d121_44 : decode (ai_b 121) 44 = .ok (.iaload, 1) := by decide +kernel
theorem d121_45 : decode (ai_b 121) 45 = .ok (.iconst 0, 1) := by decide +kernel
theorem d121_46 : decode (ai_b 121) 46 = .ok (.bipush 99, 2) := by decide +kernel
theorem d121_48 : decode (ai_b 121) 48 = .ok (.invokevirtual 113, 3) := by decide +kernel
theorem d121_51 : decode (ai_b 121) 51 = .ok (.ifCond .eq 7, 3) := by decide +kernel
theorem d121_54 : decode (ai_b 121) 54 = .ok (.iconst 1, 1) := by decide +kernel
theorem d121_55 : decode (ai_b 121) 55 = .ok (.goto 4, 3) := by decide +kernel
theorem d121_58 : decode (ai_b 121) 58 = .ok (.iconst 0, 1) := by decide +kernel
theorem d121_59 : decode (ai_b 121) 59 = .ok (.istore 6, 2) := by decide +kernel
theorem d121_61 : decode (ai_b 121) 61 = .ok (.iload 6, 2) := by decide +kernel
theorem d121_63 : decode (ai_b 121) 63 = .ok (.ifCond .ne 36, 3) := by decide +kernel
theorem d121_66 : decode (ai_b 121) 66 = .ok (.aload_n 0, 1) := by decide +kernel
theorem d121_67 : decode (ai_b 121) 67 = .ok (.getfield 13, 3) := by decide +kernel
theorem d121_70 : decode (ai_b 121) 70 = .ok (.iload_n 1, 1) := by decide +kernel
theorem d121_71 : decode (ai_b 121) 71 = .ok (.iaload, 1) := by decide +kernel
theorem d121_72 : decode (ai_b 121) 72 = .ok (.ifCond .lt 34, 3) := by decide +kernel
theorem d121_75 : decode (ai_b 121) 75 = .ok (.aload_n 0, 1) := by decide +kernel
theorem d121_76 : decode (ai_b 121) 76 = .ok (.getfield 13, 3) := by decide +kernel
theorem d121_79 : decode (ai_b 121) 79 = .ok (.iload_n 2, 1) := by decide +kernel
theorem d121_80 : decode (ai_b 121) 80 = .ok (.iaload, 1) := by decide +kernel
theorem d121_81 : decode (ai_b 121) 81 = .ok (.ifCond .lt 25, 3) := by decide +kernel
theorem d121_84 : decode (ai_b 121) 84 = .ok (.aload_n 0, 1) := by decide +kernel
theorem d121_85 : decode (ai_b 121) 85 = .ok (.getfield 13, 3) := by decide +kernel
theorem d121_88 : decode (ai_b 121) 88 = .ok (.iload_n 1, 1) := by decide +kernel
theorem d121_89 : decode (ai_b 121) 89 = .ok (.iaload, 1) := by decide +kernel
theorem d121_90 : decode (ai_b 121) 90 = .ok (.aload_n 0, 1) := by decide +kernel
theorem d121_91 : decode (ai_b 121) 91 = .ok (.getfield 13, 3) := by decide +kernel
theorem d121_94 : decode (ai_b 121) 94 = .ok (.iload_n 2, 1) := by decide +kernel
theorem d121_95 : decode (ai_b 121) 95 = .ok (.iaload, 1) := by decide +kernel
theorem d121_96 : decode (ai_b 121) 96 = .ok (.if_icmp .eq 10, 3) := by decide +kernel
theorem d121_99 : decode (ai_b 121) 99 = .ok (.aload_n 0, 1) := by decide +kernel
theorem d121_100 : decode (ai_b 121) 100 = .ok (.bipush (-2), 2) := by decide +kernel
theorem d121_102 : decode (ai_b 121) 102 = .ok (.invokevirtual 121, 3) := by decide +kernel
theorem d121_105 : decode (ai_b 121) 105 = .ok (.ireturn, 1) := by decide +kernel
theorem d121_106 : decode (ai_b 121) 106 = .ok (.aload_n 0, 1) := by decide +kernel
theorem d121_107 : decode (ai_b 121) 107 = .ok (.getfield 13, 3) := by decide +kernel
theorem d121_110 : decode (ai_b 121) 110 = .ok (.iload_n 1, 1) := by decide +kernel
theorem d121_111 : decode (ai_b 121) 111 = .ok (.iaload, 1) := by decide +kernel
theorem d121_112 : decode (ai_b 121) 112 = .ok (.ifCond .lt 12, 3) := by decide +kernel
theorem d121_115 : decode (ai_b 121) 115 = .ok (.aload_n 0, 1) := by decide +kernel
theorem d121_116 : decode (ai_b 121) 116 = .ok (.getfield 13, 3) := by decide +kernel
theorem d121_119 : decode (ai_b 121) 119 = .ok (.iload_n 2, 1) := by decide +kernel
theorem d121_120 : decode (ai_b 121) 120 = .ok (.iaload, 1) := by decide +kernel
theorem d121_121 : decode (ai_b 121) 121 = .ok (.ifCond .ge 10, 3) := by decide +kernel
theorem d121_124 : decode (ai_b 121) 124 = .ok (.aload_n 0, 1) := by decide +kernel
theorem d121_125 : decode (ai_b 121) 125 = .ok (.bipush (-3), 2) := by decide +kernel
theorem d121_127 : decode (ai_b 121) 127 = .ok (.invokevirtual 121, 3) := by decide +kernel
theorem d121_130 : decode (ai_b 121) 130 = .ok (.ireturn, 1) := by decide +kernel
theorem d121_131 : decode (ai_b 121) 131 = .ok (.iload 5, 2) := by decide +kernel
theorem d121_133 : decode (ai_b 121) 133 = .ok (.ifCond .ge 10, 3) := by decide +kernel
theorem d121_136 : decode (ai_b 121) 136 = .ok (.aload_n 0, 1) := by decide +kernel
theorem d121_137 : decode (ai_b 121) 137 = .ok (.bipush (-4), 2) := by decide +kernel
theorem d121_139 : decode (ai_b 121) 139 = .ok (.invokevirtual 121, 3) := by decide +kernel
theorem d121_142 : decode (ai_b 121) 142 = .ok (.ireturn, 1) := by decide +kernel
theorem d121_143 : decode (ai_b 121) 143 = .ok (.iload_n 3, 1) := by decide +kernel
theorem d121_144 : decode (ai_b 121) 144 = .ok (.ifCond .lt 35, 3) := by decide +kernel
theorem d121_147 : decode (ai_b 121) 147 = .ok (.iload 4, 2) := by decide +kernel
theorem d121_149 : decode (ai_b 121) 149 = .ok (.ifCond .lt 30, 3) := by decide +kernel
theorem d121_152 : decode (ai_b 121) 152 = .ok (.iload_n 3, 1) := by decide +kernel
theorem d121_153 : decode (ai_b 121) 153 = .ok (.aload_n 0, 1) := by decide +kernel
theorem d121_154 : decode (ai_b 121) 154 = .ok (.getfield 16, 3) := by decide +kernel
theorem d121_157 : decode (ai_b 121) 157 = .ok (.iload_n 1, 1) := by decide +kernel
theorem d121_158 : decode (ai_b 121) 158 = .ok (.iaload, 1) := by decide +kernel
theorem d121_159 : decode (ai_b 121) 159 = .ok (.iload 5, 2) := by decide +kernel
theorem d121_161 : decode (ai_b 121) 161 = .ok (.isub, 1) := by decide +kernel
theorem d121_162 : decode (ai_b 121) 162 = .ok (.if_icmp .gt 17, 3) := by decide +kernel
theorem d121_165 : decode (ai_b 121) 165 = .ok (.iload 4, 2) := by decide +kernel
theorem d121_167 : decode (ai_b 121) 167 = .ok (.aload_n 0, 1) := by decide +kernel
theorem d121_168 : decode (ai_b 121) 168 = .ok (.getfield 16, 3) := by decide +kernel
theorem d121_171 : decode (ai_b 121) 171 = .ok (.iload_n 2, 1) := by decide +kernel
theorem d121_172 : decode (ai_b 121) 172 = .ok (.iaload, 1) := by decide +kernel
theorem d121_173 : decode (ai_b 121) 173 = .ok (.iload 5, 2) := by decide +kernel
theorem d121_175 : decode (ai_b 121) 175 = .ok (.isub, 1) := by decide +kernel
theorem d121_176 : decode (ai_b 121) 176 = .ok (.if_icmp .le 10, 3) := by decide +kernel
theorem d121_179 : decode (ai_b 121) 179 = .ok (.aload_n 0, 1) := by decide +kernel
theorem d121_180 : decode (ai_b 121) 180 = .ok (.bipush (-5), 2) := by decide +kernel
theorem d121_182 : decode (ai_b 121) 182 = .ok (.invokevirtual 121, 3) := by decide +kernel
theorem d121_185 : decode (ai_b 121) 185 = .ok (.ireturn, 1) := by decide +kernel
theorem d121_186 : decode (ai_b 121) 186 = .ok (.iconst 0, 1) := by decide +kernel
theorem d121_187 : decode (ai_b 121) 187 = .ok (.istore 7, 2) := by decide +kernel
theorem d121_189 : decode (ai_b 121) 189 = .ok (.iload 7, 2) := by decide +kernel
theorem d121_191 : decode (ai_b 121) 191 = .ok (.iload 5, 2) := by decide +kernel
theorem d121_193 : decode (ai_b 121) 193 = .ok (.if_icmp .ge 30, 3) := by decide +kernel
theorem d121_196 : decode (ai_b 121) 196 = .ok (.aload_n 0, 1) := by decide +kernel
theorem d121_197 : decode (ai_b 121) 197 = .ok (.getfield 23, 3) := by decide +kernel
theorem d121_200 : decode (ai_b 121) 200 = .ok (.iload 7, 2) := by decide +kernel
theorem d121_202 : decode (ai_b 121) 202 = .ok (.aload_n 0, 1) := by decide +kernel
theorem d121_203 : decode (ai_b 121) 203 = .ok (.getfield 19, 3) := by decide +kernel
theorem d121_206 : decode (ai_b 121) 206 = .ok (.bipush 100, 2) := by decide +kernel
theorem d121_208 : decode (ai_b 121) 208 = .ok (.iload_n 1, 1) := by decide +kernel
theorem d121_209 : decode (ai_b 121) 209 = .ok (.imul, 1) := by decide +kernel
theorem d121_210 : decode (ai_b 121) 210 = .ok (.iload_n 3, 1) := by decide +kernel
theorem d121_211 : decode (ai_b 121) 211 = .ok (.iadd, 1) := by decide +kernel
theorem d121_212 : decode (ai_b 121) 212 = .ok (.iload 7, 2) := by decide +kernel
theorem d121_214 : decode (ai_b 121) 214 = .ok (.iadd, 1) := by decide +kernel
theorem d121_215 : decode (ai_b 121) 215 = .ok (.laload, 1) := by decide +kernel
theorem d121_216 : decode (ai_b 121) 216 = .ok (.lastore, 1) := by decide +kernel
theorem d121_217 : decode (ai_b 121) 217 = .ok (.iinc 7 1, 3) := by decide +kernel
theorem d121_220 : decode (ai_b 121) 220 = .ok (.goto (-31), 3) := by decide +kernel
theorem d121_223 : decode (ai_b 121) 223 = .ok (.iconst 0, 1) := by decide +kernel
theorem d121_224 : decode (ai_b 121) 224 = .ok (.istore 7, 2) := by decide +kernel
theorem d121_226 : decode (ai_b 121) 226 = .ok (.iload 7, 2) := by decide +kernel
theorem d121_228 : decode (ai_b 121) 228 = .ok (.iload 5, 2) := by decide +kernel
theorem d121_230 : decode (ai_b 121) 230 = .ok (.if_icmp .ge 31, 3) := by decide +kernel
theorem d121_233 : decode (ai_b 121) 233 = .ok (.aload_n 0, 1) := by decide +kernel
theorem d121_234 : decode (ai_b 121) 234 = .ok (.getfield 19, 3) := by decide +kernel
theorem d121_237 : decode (ai_b 121) 237 = .ok (.bipush 100, 2) := by decide +kernel
theorem d121_239 : decode (ai_b 121) 239 = .ok (.iload_n 2, 1) := by decide +kernel
theorem d121_240 : decode (ai_b 121) 240 = .ok (.imul, 1) := by decide +kernel
theorem d121_241 : decode (ai_b 121) 241 = .ok (.iload 4, 2) := by decide +kernel
theorem d121_243 : decode (ai_b 121) 243 = .ok (.iadd, 1) := by decide +kernel
theorem d121_244 : decode (ai_b 121) 244 = .ok (.iload 7, 2) := by decide +kernel
theorem d121_246 : decode (ai_b 121) 246 = .ok (.iadd, 1) := by decide +kernel
theorem d121_247 : decode (ai_b 121) 247 = .ok (.aload_n 0, 1) := by decide +kernel
theorem d121_248 : decode (ai_b 121) 248 = .ok (.getfield 23, 3) := by decide +kernel
theorem d121_251 : decode (ai_b 121) 251 = .ok (.iload 7, 2) := by decide +kernel
theorem d121_253 : decode (ai_b 121) 253 = .ok (.laload, 1) := by decide +kernel
theorem d121_254 : decode (ai_b 121) 254 = .ok (.lastore, 1) := by decide +kernel
theorem d121_255 : decode (ai_b 121) 255 = .ok (.iinc 7 1, 3) := by decide +kernel
theorem d121_258 : decode (ai_b 121) 258 = .ok (.goto (-32), 3) := by decide +kernel
theorem d121_261 : decode (ai_b 121) 261 = .ok (.iconst 1, 1) := by decide +kernel
theorem d121_262 : decode (ai_b 121) 262 = .ok (.ireturn, 1) := by decide +kernel
theorem d122_0 : decode (ai_b 122) 0 = .ok (.aload_n 0, 1) := by decide +kernel
theorem d122_1 : decode (ai_b 122) 1 = .ok (.iload_n 1, 1) := by decide +kernel
theorem d122_2 : decode (ai_b 122) 2 = .ok (.invokevirtual 117, 3) := by decide +kernel
theorem d122_5 : decode (ai_b 122) 5 = .ok (.ifCond .eq 42, 3) := by decide +kernel
theorem d122_8 : decode (ai_b 122) 8 = .ok (.aload_n 0, 1) := by decide +kernel
theorem d122_9 : decode (ai_b 122) 9 = .ok (.iload_n 1, 1) := by decide +kernel
theorem d122_10 : decode (ai_b 122) 10 = .ok (.invokevirtual 125, 3) := by decide +kernel
theorem d122_13 : decode (ai_b 122) 13 = .ok (.ifCond .eq 34, 3) := by decide +kernel
theorem d122_16 : decode (ai_b 122) 16 = .ok (.aload_n 0, 1) := by decide +kernel
theorem d122_17 : decode (ai_b 122) 17 = .ok (.iload_n 2, 1) := by decide +kernel
theorem d122_18 : decode (ai_b 122) 18 = .ok (.iconst 0, 1) := by decide +kernel
theorem d122_19 : decode (ai_b 122) 19 = .ok (.aload_n 0, 1) := by decide +kernel
theorem d122_20 : decode (ai_b 122) 20 = .ok (.getfield 16, 3) := by decide +kernel
theorem d122_23 : decode (ai_b 122) 23 = .ok (.iload_n 1, 1) := by decide +kernel
theorem d122_24 : decode (ai_b 122) 24 = .ok (.iaload, 1) := by decide +kernel
theorem d122_25 : decode (ai_b 122) 25 = .ok (.iconst 1, 1) := by decide +kernel
theorem d122_26 : decode (ai_b 122) 26 = .ok (.isub, 1) := by decide +kernel
theorem d122_27 : decode (ai_b 122) 27 = .ok (.invokevirtual 113, 3) := by decide +kernel
theorem d122_30 : decode (ai_b 122) 30 = .ok (.ifCond .eq 17, 3) := by decide +kernel
theorem d122_33 : decode (ai_b 122) 33 = .ok (.aload_n 0, 1) := by decide +kernel
theorem d122_34 : decode (ai_b 122) 34 = .ok (.getfield 19, 3) := by decide +kernel
theorem d122_37 : decode (ai_b 122) 37 = .ok (.bipush 100, 2) := by decide +kernel
theorem d122_39 : decode (ai_b 122) 39 = .ok (.iload_n 1, 1) := by decide +kernel
theorem d122_40 : decode (ai_b 122) 40 = .ok (.imul, 1) := by decide +kernel
theorem d122_41 : decode (ai_b 122) 41 = .ok (.iload_n 2, 1) := by decide +kernel
theorem d122_42 : decode (ai_b 122) 42 = .ok (.iadd, 1) := by decide +kernel
theorem d122_43 : decode (ai_b 122) 43 = .ok (.laload, 1) := by decide +kernel
theorem d122_44 : decode (ai_b 122) 44 = .ok (.goto 4, 3) := by decide +kernel
theorem d122_47 : decode (ai_b 122) 47 = .ok (.lconst 0, 1) := by decide +kernel
theorem d122_48 : decode (ai_b 122) 48 = .ok (.lreturn, 1) := by decide +kernel
theorem d123_0 : decode (ai_b 123) 0 = .ok (.aload_n 0, 1) := by decide +kernel
theorem d123_1 : decode (ai_b 123) 1 = .ok (.iload_n 1, 1) := by decide +kernel
theorem d123_2 : decode (ai_b 123) 2 = .ok (.invokevirtual 117, 3) := by decide +kernel
theorem d123_5 : decode (ai_b 123) 5 = .ok (.ifCond .eq 23, 3) := by decide +kernel
theorem d123_8 : decode (ai_b 123) 8 = .ok (.iload_n 2, 1) := by decide +kernel
theorem d123_9 : decode (ai_b 123) 9 = .ok (.iconst (-1), 1) := by decide +kernel
theorem d123_10 : decode (ai_b 123) 10 = .ok (.if_icmp .eq 24, 3) := by decide +kernel
theorem d123_13 : decode (ai_b 123) 13 = .ok (.aload_n 0, 1) := by decide +kernel
theorem d123_14 : decode (ai_b 123) 14 = .ok (.iload_n 2, 1) := by decide +kernel
theorem d123_15 : decode (ai_b 123) 15 = .ok (.iconst 0, 1) := by decide +kernel
theorem d123_16 : decode (ai_b 123) 16 = .ok (.aload_n 0, 1) := by decide +kernel
theorem d123_17 : decode (ai_b 123) 17 = .ok (.getfield 33, 3) := by decide +kernel
theorem d123_20 : decode (ai_b 123) 20 = .ok (.iconst 1, 1) := by decide +kernel
theorem d123_21 : decode (ai_b 123) 21 = .ok (.isub, 1) := by decide +kernel
theorem d123_22 : decode (ai_b 123) 22 = .ok (.invokevirtual 113, 3) := by decide +kernel
theorem d123_25 : decode (ai_b 123) 25 = .ok (.ifCond .ne 9, 3) := by decide +kernel
theorem d123_28 : decode (ai_b 123) 28 = .ok (.aload_n 0, 1) := by decide +kernel
theorem d123_29 : decode (ai_b 123) 29 = .ok (.iconst (-1), 1) := by decide +kernel
theorem d123_30 : decode (ai_b 123) 30 = .ok (.invokevirtual 121, 3) := by decide +kernel
theorem d123_33 : decode (ai_b 123) 33 = .ok (.ireturn, 1) := by decide +kernel
theorem d123_34 : decode (ai_b 123) 34 = .ok (.aload_n 0, 1) := by decide +kernel
theorem d123_35 : decode (ai_b 123) 35 = .ok (.getfield 13, 3) := by decide +kernel
theorem d123_38 : decode (ai_b 123) 38 = .ok (.iload_n 1, 1) := by decide +kernel
theorem d123_39 : decode (ai_b 123) 39 = .ok (.iload_n 2, 1) := by decide +kernel
theorem d123_40 : decode (ai_b 123) 40 = .ok (.iastore, 1) := by decide +kernel
theorem d123_41 : decode (ai_b 123) 41 = .ok (.iload_n 2, 1) := by decide +kernel
theorem d123_42 : decode (ai_b 123) 42 = .ok (.iconst (-1), 1) := by decide +kernel
theorem d123_43 : decode (ai_b 123) 43 = .ok (.if_icmp .ne 7, 3) := by decide +kernel
theorem d123_46 : decode (ai_b 123) 46 = .ok (.iconst 0, 1) := by decide +kernel
theorem d123_47 : decode (ai_b 123) 47 = .ok (.goto 4, 3) := by decide +kernel
theorem d123_50 : decode (ai_b 123) 50 = .ok (.iconst 1, 1) := by decide +kernel
theorem d123_51 : decode (ai_b 123) 51 = .ok (.ireturn, 1) := by decide +kernel
theorem d124_0 : decode (ai_b 124) 0 = .ok (.aload_n 0, 1) := by decide +kernel
theorem d124_1 : decode (ai_b 124) 1 = .ok (.iload_n 1, 1) := by decide +kernel
theorem d124_2 : decode (ai_b 124) 2 = .ok (.invokevirtual 117, 3) := by decide +kernel
theorem d124_5 : decode (ai_b 124) 5 = .ok (.ifCond .eq 12, 3) := by decide +kernel
theorem d124_8 : decode (ai_b 124) 8 = .ok (.aload_n 0, 1) := by decide +kernel
theorem d124_9 : decode (ai_b 124) 9 = .ok (.getfield 13, 3) := by decide +kernel
theorem d124_12 : decode (ai_b 124) 12 = .ok (.iload_n 1, 1) := by decide +kernel
theorem d124_13 : decode (ai_b 124) 13 = .ok (.iaload, 1) := by decide +kernel
theorem d124_14 : decode (ai_b 124) 14 = .ok (.goto 4, 3) := by decide +kernel
theorem d124_17 : decode (ai_b 124) 17 = .ok (.iconst (-1), 1) := by decide +kernel
theorem d124_18 : decode (ai_b 124) 18 = .ok (.ireturn, 1) := by decide +kernel
theorem d125_0 : decode (ai_b 125) 0 = .ok (.iconst 5, 1) := by decide +kernel
theorem d125_1 : decode (ai_b 125) 1 = .ok (.iload_n 1, 1) := by decide +kernel
theorem d125_2 : decode (ai_b 125) 2 = .ok (.imul, 1) := by decide +kernel
theorem d125_3 : decode (ai_b 125) 3 = .ok (.iload_n 2, 1) := by decide +kernel
theorem d125_4 : decode (ai_b 125) 4 = .ok (.iadd, 1) := by decide +kernel
theorem d125_5 : decode (ai_b 125) 5 = .ok (.iconst 4, 1) := by decide +kernel
theorem d125_6 : decode (ai_b 125) 6 = .ok (.imul, 1) := by decide +kernel
theorem d125_7 : decode (ai_b 125) 7 = .ok (.iload_n 3, 1) := by decide +kernel
theorem d125_8 : decode (ai_b 125) 8 = .ok (.iadd, 1) := by decide +kernel
theorem d125_9 : decode (ai_b 125) 9 = .ok (.iconst 4, 1) := by decide +kernel
theorem d125_10 : decode (ai_b 125) 10 = .ok (.imul, 1) := by decide +kernel
theorem d125_11 : decode (ai_b 125) 11 = .ok (.iload 4, 2) := by decide +kernel
theorem d125_13 : decode (ai_b 125) 13 = .ok (.iadd, 1) := by decide +kernel
theorem d125_14 : decode (ai_b 125) 14 = .ok (.ireturn, 1) := by decide +kernel
theorem d126_0 : decode (ai_b 126) 0 = .ok (.iconst 5, 1) := by decide +kernel
theorem d126_1 : decode (ai_b 126) 1 = .ok (.iload_n 1, 1) := by decide +kernel
theorem d126_2 : decode (ai_b 126) 2 = .ok (.imul, 1) := by decide +kernel
theorem d126_3 : decode (ai_b 126) 3 = .ok (.iload_n 2, 1) := by decide +kernel
theorem d126_4 : decode (ai_b 126) 4 = .ok (.iadd, 1) := by decide +kernel
theorem d126_5 : decode (ai_b 126) 5 = .ok (.iconst 4, 1) := by decide +kernel
theorem d126_6 : decode (ai_b 126) 6 = .ok (.imul, 1) := by decide +kernel
theorem d126_7 : decode (ai_b 126) 7 = .ok (.iload_n 3, 1) := by decide +kernel
theorem d126_8 : decode (ai_b 126) 8 = .ok (.iadd, 1) := by decide +kernel
theorem d126_9 : decode (ai_b 126) 9 = .ok (.ireturn, 1) := by decide +kernel
theorem d127_0 : decode (ai_b 127) 0 = .ok (.iconst 0, 1) := by decide +kernel
theorem d127_1 : decode (ai_b 127) 1 = .ok (.istore_n 3, 1) := by decide +kernel
theorem d127_2 : decode (ai_b 127) 2 = .ok (.iload_n 3, 1) := by decide +kernel
theorem d127_3 : decode (ai_b 127) 3 = .ok (.iconst 4, 1) := by decide +kernel
theorem d127_4 : decode (ai_b 127) 4 = .ok (.if_icmp .ge 57, 3) := by decide +kernel
theorem d127_7 : decode (ai_b 127) 7 = .ok (.aload_n 0, 1) := by decide +kernel
theorem d127_8 : decode (ai_b 127) 8 = .ok (.getfield 89, 3) := by decide +kernel
theorem d127_11 : decode (ai_b 127) 11 = .ok (.aload_n 0, 1) := by decide +kernel
theorem d127_12 : decode (ai_b 127) 12 = .ok (.iload_n 1, 1) := by decide +kernel
theorem d127_13 : decode (ai_b 127) 13 = .ok (.iload_n 2, 1) := by decide +kernel
theorem d127_14 : decode (ai_b 127) 14 = .ok (.iload_n 3, 1) := by decide +kernel
theorem d127_15 : decode (ai_b 127) 15 = .ok (.invokevirtual 132, 3) := by decide +kernel
theorem d127_18 : decode (ai_b 127) 18 = .ok (.aload_n 0, 1) := by decide +kernel
theorem d127_19 : decode (ai_b 127) 19 = .ok (.getfield 36, 3) := by decide +kernel
theorem d127_22 : decode (ai_b 127) 22 = .ok (.iload_n 2, 1) := by decide +kernel
theorem d127_23 : decode (ai_b 127) 23 = .ok (.iaload, 1) := by decide +kernel
theorem d127_24 : decode (ai_b 127) 24 = .ok (.iastore, 1) := by decide +kernel
theorem d127_25 : decode (ai_b 127) 25 = .ok (.iconst 0, 1) := by decide +kernel
theorem d127_26 : decode (ai_b 127) 26 = .ok (.istore 4, 2) := by decide +kernel
theorem d127_28 : decode (ai_b 127) 28 = .ok (.iload 4, 2) := by decide +kernel
theorem d127_30 : decode (ai_b 127) 30 = .ok (.iconst 4, 1) := by decide +kernel
theorem d127_31 : decode (ai_b 127) 31 = .ok (.if_icmp .ge 24, 3) := by decide +kernel
theorem d127_34 : decode (ai_b 127) 34 = .ok (.aload_n 0, 1) := by decide +kernel
theorem d127_35 : decode (ai_b 127) 35 = .ok (.getfield 86, 3) := by decide +kernel
theorem d127_38 : decode (ai_b 127) 38 = .ok (.aload_n 0, 1) := by decide +kernel
theorem d127_39 : decode (ai_b 127) 39 = .ok (.iload_n 1, 1) := by decide +kernel
theorem d127_40 : decode (ai_b 127) 40 = .ok (.iload_n 2, 1) := by decide +kernel
theorem d127_41 : decode (ai_b 127) 41 = .ok (.iload 4, 2) := by decide +kernel
theorem d127_43 : decode (ai_b 127) 43 = .ok (.iload_n 3, 1) := by decide +kernel
theorem d127_44 : decode (ai_b 127) 44 = .ok (.invokevirtual 136, 3) := by decide +kernel
theorem d127_47 : decode (ai_b 127) 47 = .ok (.iconst 1, 1) := by decide +kernel
theorem d127_48 : decode (ai_b 127) 48 = .ok (.iastore, 1) := by decide +kernel
theorem d127_49 : decode (ai_b 127) 49 = .ok (.iinc 4 1, 3) := by decide +kernel
theorem d127_52 : decode (ai_b 127) 52 = .ok (.goto (-24), 3) := by decide +kernel
theorem d127_55 : decode (ai_b 127) 55 = .ok (.iinc 3 1, 3) := by decide +kernel
theorem d127_58 : decode (ai_b 127) 58 = .ok (.goto (-56), 3) := by decide +kernel
theorem d127_61 : decode (ai_b 127) 61 = .ok (.return_, 1) := by decide +kernel
theorem d128_0 : decode (ai_b 128) 0 = .ok (.aload_n 0, 1) := by decide +kernel
theorem d128_1 : decode (ai_b 128) 1 = .ok (.iload_n 1, 1) := by decide +kernel
theorem d128_2 : decode (ai_b 128) 2 = .ok (.iconst 0, 1) := by decide +kernel
theorem d128_3 : decode (ai_b 128) 3 = .ok (.aload_n 0, 1) := by decide +kernel
theorem d128_4 : decode (ai_b 128) 4 = .ok (.getfield 33, 3) := by decide +kernel
theorem d128_7 : decode (ai_b 128) 7 = .ok (.iconst 1, 1) := by decide +kernel
theorem d128_8 : decode (ai_b 128) 8 = .ok (.isub, 1) := by decide +kernel
theorem d128_9 : decode (ai_b 128) 9 = .ok (.invokevirtual 113, 3) := by decide +kernel
theorem d128_12 : decode (ai_b 128) 12 = .ok (.ifCond .eq 16, 3) := by decide +kernel
theorem d128_15 : decode (ai_b 128) 15 = .ok (.aload_n 0, 1) := by decide +kernel
theorem d128_16 : decode (ai_b 128) 16 = .ok (.getfield 51, 3) := by decide +kernel
theorem d128_19 : decode (ai_b 128) 19 = .ok (.iload_n 1, 1) := by decide +kernel
theorem d128_20 : decode (ai_b 128) 20 = .ok (.baload, 1) := by decide +kernel
theorem d128_21 : decode (ai_b 128) 21 = .ok (.ifCond .ne 7, 3) := by decide +kernel
theorem d128_24 : decode (ai_b 128) 24 = .ok (.iconst 1, 1) := by decide +kernel
theorem d128_25 : decode (ai_b 128) 25 = .ok (.goto 4, 3) := by decide +kernel
theorem d128_28 : decode (ai_b 128) 28 = .ok (.iconst 0, 1) := by decide +kernel
theorem d128_29 : decode (ai_b 128) 29 = .ok (.ireturn, 1) := by decide +kernel
theorem d129_0 : decode (ai_b 129) 0 = .ok (.aload_n 0, 1) := by decide +kernel
theorem d129_1 : decode (ai_b 129) 1 = .ok (.iload_n 1, 1) := by decide +kernel
theorem d129_2 : decode (ai_b 129) 2 = .ok (.iconst 0, 1) := by decide +kernel
theorem d129_3 : decode (ai_b 129) 3 = .ok (.aload_n 0, 1) := by decide +kernel
theorem d129_4 : decode (ai_b 129) 4 = .ok (.getfield 26, 3) := by decide +kernel
theorem d129_7 : decode (ai_b 129) 7 = .ok (.iconst 1, 1) := by decide +kernel
theorem d129_8 : decode (ai_b 129) 8 = .ok (.isub, 1) := by decide +kernel
theorem d129_9 : decode (ai_b 129) 9 = .ok (.invokevirtual 113, 3) := by decide +kernel
theorem d129_12 : decode (ai_b 129) 12 = .ok (.ifCond .eq 22, 3) := by decide +kernel
theorem d129_15 : decode (ai_b 129) 15 = .ok (.aload_n 0, 1) := by decide +kernel
theorem d129_16 : decode (ai_b 129) 16 = .ok (.iload_n 2, 1) := by decide +kernel
theorem d129_17 : decode (ai_b 129) 17 = .ok (.iconst 0, 1) := by decide +kernel
theorem d129_18 : decode (ai_b 129) 18 = .ok (.aload_n 0, 1) := by decide +kernel
theorem d129_19 : decode (ai_b 129) 19 = .ok (.getfield 30, 3) := by decide +kernel
theorem d129_22 : decode (ai_b 129) 22 = .ok (.iconst 1, 1) := by decide +kernel
theorem d129_23 : decode (ai_b 129) 23 = .ok (.isub, 1) := by decide +kernel
theorem d129_24 : decode (ai_b 129) 24 = .ok (.invokevirtual 113, 3) := by decide +kernel
theorem d129_27 : decode (ai_b 129) 27 = .ok (.ifCond .eq 7, 3) := by decide +kernel
theorem d129_30 : decode (ai_b 129) 30 = .ok (.iconst 1, 1) := by decide +kernel
theorem d129_31 : decode (ai_b 129) 31 = .ok (.goto 4, 3) := by decide +kernel
theorem d129_34 : decode (ai_b 129) 34 = .ok (.iconst 0, 1) := by decide +kernel
theorem d129_35 : decode (ai_b 129) 35 = .ok (.ireturn, 1) := by decide +kernel
theorem d130_0 : decode (ai_b 130) 0 = .ok (.aload_n 0, 1) := by decide +kernel
theorem d130_1 : decode (ai_b 130) 1 = .ok (.getfield 30, 3) := by decide +kernel
theorem d130_4 : decode (ai_b 130) 4 = .ok (.ifCond .le 24, 3) := by decide +kernel
theorem d130_7 : decode (ai_b 130) 7 = .ok (.aload_n 0, 1) := by decide +kernel
theorem d130_8 : decode (ai_b 130) 8 = .ok (.iload_n 2, 1) := by decide +kernel
theorem d130_9 : decode (ai_b 130) 9 = .ok (.iconst 0, 1) := by decide +kernel
theorem d130_10 : decode (ai_b 130) 10 = .ok (.aload_n 0, 1) := by decide +kernel
theorem d130_11 : decode (ai_b 130) 11 = .ok (.getfield 30, 3) := by decide +kernel
theorem d130_14 : decode (ai_b 130) 14 = .ok (.iconst 1, 1) := by decide +kernel
theorem d130_15 : decode (ai_b 130) 15 = .ok (.isub, 1) := by decide +kernel
theorem d130_16 : decode (ai_b 130) 16 = .ok (.invokevirtual 113, 3) := by decide +kernel
theorem d130_19 : decode (ai_b 130) 19 = .ok (.ifCond .ne 9, 3) := by decide +kernel
theorem d130_22 : decode (ai_b 130) 22 = .ok (.aload_n 0, 1) := by decide +kernel
theorem d130_23 : decode (ai_b 130) 23 = .ok (.iconst (-1), 1) := by decide +kernel
theorem d130_24 : decode (ai_b 130) 24 = .ok (.invokevirtual 121, 3) := by decide +kernel
theorem d130_27 : decode (ai_b 130) 27 = .ok (.ireturn, 1) := by decide +kernel
theorem d130_28 : decode (ai_b 130) 28 = .ok (.aload_n 0, 1) := by decide +kernel
theorem d130_29 : decode (ai_b 130) 29 = .ok (.iload_n 1, 1) := by decide +kernel
theorem d130_30 : decode (ai_b 130) 30 = .ok (.iconst 2, 1) := by decide +kernel
theorem d130_31 : decode (ai_b 130) 31 = .ok (.iconst 4, 1) := by decide +kernel
theorem d130_32 : decode (ai_b 130) 32 = .ok (.invokevirtual 113, 3) := by decide +kernel
theorem d130_35 : decode (ai_b 130) 35 = .ok (.ifCond .eq 39, 3) := by decide +kernel
theorem d130_38 : decode (ai_b 130) 38 = .ok (.aload_n 0, 1) := by decide +kernel
theorem d130_39 : decode (ai_b 130) 39 = .ok (.getfield 30, 3) := by decide +kernel
theorem d130_42 : decode (ai_b 130) 42 = .ok (.ifCond .ne 11, 3) := by decide +kernel
theorem d130_45 : decode (ai_b 130) 45 = .ok (.iload_n 2, 1) := by decide +kernel
theorem d130_46 : decode (ai_b 130) 46 = .ok (.iconst (-1), 1) := by decide +kernel
theorem d130_47 : decode (ai_b 130) 47 = .ok (.if_icmp .ne 27, 3) := by decide +kernel
theorem d130_50 : decode (ai_b 130) 50 = .ok (.goto 20, 3) := by decide +kernel
theorem d130_53 : decode (ai_b 130) 53 = .ok (.aload_n 0, 1) := by decide +kernel
theorem d130_54 : decode (ai_b 130) 54 = .ok (.iload_n 3, 1) := by decide +kernel
theorem d130_55 : decode (ai_b 130) 55 = .ok (.iconst 0, 1) := by decide +kernel
theorem d130_56 : decode (ai_b 130) 56 = .ok (.aload_n 0, 1) := by decide +kernel
theorem d130_57 : decode (ai_b 130) 57 = .ok (.getfield 36, 3) := by decide +kernel
theorem d130_60 : decode (ai_b 130) 60 = .ok (.iload_n 2, 1) := by decide +kernel
theorem d130_61 : decode (ai_b 130) 61 = .ok (.iaload, 1) := by decide +kernel
theorem d130_62 : decode (ai_b 130) 62 = .ok (.iconst 1, 1) := by decide +kernel
theorem d130_63 : decode (ai_b 130) 63 = .ok (.isub, 1) := by decide +kernel
theorem d130_64 : decode (ai_b 130) 64 = .ok (.invokevirtual 113, 3) := by decide +kernel
theorem d130_67 : decode (ai_b 130) 67 = .ok (.ifCond .eq 7, 3) := by decide +kernel
theorem d130_70 : decode (ai_b 130) 70 = .ok (.iconst 1, 1) := by decide +kernel
theorem d130_71 : decode (ai_b 130) 71 = .ok (.goto 4, 3) := by decide +kernel
theorem d130_74 : decode (ai_b 130) 74 = .ok (.iconst 0, 1) := by decide +kernel
theorem d130_75 : decode (ai_b 130) 75 = .ok (.istore 4, 2) := by decide +kernel
theorem d130_77 : decode (ai_b 130) 77 = .ok (.iload 4, 2) := by decide +kernel
theorem d130_79 : decode (ai_b 130) 79 = .ok (.ifCond .ne 10, 3) := by decide +kernel
theorem d130_82 : decode (ai_b 130) 82 = .ok (.aload_n 0, 1) := by decide +kernel
theorem d130_83 : decode (ai_b 130) 83 = .ok (.bipush (-6), 2) := by decide +kernel
theorem d130_85 : decode (ai_b 130) 85 = .ok (.invokevirtual 121, 3) := by decide +kernel
theorem d130_88 : decode (ai_b 130) 88 = .ok (.ireturn, 1) := by decide +kernel
theorem d130_89 : decode (ai_b 130) 89 = .ok (.aload_n 0, 1) := by decide +kernel
theorem d130_90 : decode (ai_b 130) 90 = .ok (.getfield 30, 3) := by decide +kernel
theorem d130_93 : decode (ai_b 130) 93 = .ok (.iconst 5, 1) := by decide +kernel
theorem d130_94 : decode (ai_b 130) 94 = .ok (.if_icmp .ne 10, 3) := by decide +kernel
theorem d130_97 : decode (ai_b 130) 97 = .ok (.aload_n 0, 1) := by decide +kernel
theorem d130_98 : decode (ai_b 130) 98 = .ok (.bipush (-7), 2) := by decide +kernel
theorem d130_100 : decode (ai_b 130) 100 = .ok (.invokevirtual 121, 3) := by decide +kernel
theorem d130_103 : decode (ai_b 130) 103 = .ok (.ireturn, 1) := by decide +kernel
theorem d130_104 : decode (ai_b 130) 104 = .ok (.aload_n 0, 1) := by decide +kernel
theorem d130_105 : decode (ai_b 130) 105 = .ok (.getfield 36, 3) := by decide +kernel
theorem d130_108 : decode (ai_b 130) 108 = .ok (.aload_n 0, 1) := by decide +kernel
theorem d130_109 : decode (ai_b 130) 109 = .ok (.getfield 30, 3) := by decide +kernel
theorem d130_112 : decode (ai_b 130) 112 = .ok (.iload_n 1, 1) := by decide +kernel
theorem d130_113 : decode (ai_b 130) 113 = .ok (.iastore, 1) := by decide +kernel
theorem d130_114 : decode (ai_b 130) 114 = .ok (.aload_n 0, 1) := by decide +kernel
theorem d130_115 : decode (ai_b 130) 115 = .ok (.getfield 39, 3) := by decide +kernel
theorem d130_118 : decode (ai_b 130) 118 = .ok (.aload_n 0, 1) := by decide +kernel
theorem d130_119 : decode (ai_b 130) 119 = .ok (.getfield 30, 3) := by decide +kernel
theorem d130_122 : decode (ai_b 130) 122 = .ok (.iload_n 2, 1) := by decide +kernel
theorem d130_123 : decode (ai_b 130) 123 = .ok (.iastore, 1) := by decide +kernel
theorem d130_124 : decode (ai_b 130) 124 = .ok (.aload_n 0, 1) := by decide +kernel
theorem d130_125 : decode (ai_b 130) 125 = .ok (.getfield 42, 3) := by decide +kernel
theorem d130_128 : decode (ai_b 130) 128 = .ok (.aload_n 0, 1) := by decide +kernel
theorem d130_129 : decode (ai_b 130) 129 = .ok (.getfield 30, 3) := by decide +kernel
theorem d130_132 : decode (ai_b 130) 132 = .ok (.iload_n 3, 1) := by decide +kernel
theorem d130_133 : decode (ai_b 130) 133 = .ok (.iastore, 1) := by decide +kernel
theorem d130_134 : decode (ai_b 130) 134 = .ok (.iconst 0, 1) := by decide +kernel
theorem d130_135 : decode (ai_b 130) 135 = .ok (.istore 5, 2) := by decide +kernel
theorem d130_137 : decode (ai_b 130) 137 = .ok (.iload 5, 2) := by decide +kernel
theorem d130_139 : decode (ai_b 130) 139 = .ok (.bipush 24, 2) := by decide +kernel
theorem d130_141 : decode (ai_b 130) 141 = .ok (.if_icmp .ge 19, 3) := by decide +kernel
theorem d130_144 : decode (ai_b 130) 144 = .ok (.aload_n 0, 1) := by decide +kernel
theorem d130_145 : decode (ai_b 130) 145 = .ok (.iload 5, 2) := by decide +kernel
theorem d130_147 : decode (ai_b 130) 147 = .ok (.aload_n 0, 1) := by decide +kernel
theorem d130_148 : decode (ai_b 130) 148 = .ok (.getfield 30, 3) := by decide +kernel
theorem d130_151 : decode (ai_b 130) 151 = .ok (.invokevirtual 140, 3) := by decide +kernel
theorem d130_154 : decode (ai_b 130) 154 = .ok (.iinc 5 1, 3) := by decide +kernel
theorem d130_157 : decode (ai_b 130) 157 = .ok (.goto (-20), 3) := by decide +kernel
theorem d130_160 : decode (ai_b 130) 160 = .ok (.iconst 0, 1) := by decide +kernel
theorem d130_161 : decode (ai_b 130) 161 = .ok (.istore 5, 2) := by decide +kernel
theorem d130_163 : decode (ai_b 130) 163 = .ok (.iload 5, 2) := by decide +kernel
theorem d130_165 : decode (ai_b 130) 165 = .ok (.bipush 40, 2) := by decide +kernel
theorem d130_167 : decode (ai_b 130) 167 = .ok (.if_icmp .ge 77, 3) := by decide +kernel
theorem d130_170 : decode (ai_b 130) 170 = .ok (.aload_n 0, 1) := by decide +kernel
theorem d130_171 : decode (ai_b 130) 171 = .ok (.getfield 45, 3) := by decide +kernel
theorem d130_174 : decode (ai_b 130) 174 = .ok (.iconst 5, 1) := by decide +kernel
theorem d130_175 : decode (ai_b 130) 175 = .ok (.iload 5, 2) := by decide +kernel
theorem d130_177 : decode (ai_b 130) 177 = .ok (.imul, 1) := by decide +kernel
theorem d130_178 : decode (ai_b 130) 178 = .ok (.aload_n 0, 1) := by decide +kernel
theorem d130_179 : decode (ai_b 130) 179 = .ok (.getfield 30, 3) := by decide +kernel
theorem d130_182 : decode (ai_b 130) 182 = .ok (.iadd, 1) := by decide +kernel
theorem d130_183 : decode (ai_b 130) 183 = .ok (.iconst (-1), 1) := by decide +kernel
theorem d130_184 : decode (ai_b 130) 184 = .ok (.iastore, 1) := by decide +kernel
theorem d130_185 : decode (ai_b 130) 185 = .ok (.aload_n 0, 1) := by decide +kernel
theorem d130_186 : decode (ai_b 130) 186 = .ok (.getfield 48, 3) := by decide +kernel
theorem d130_189 : decode (ai_b 130) 189 = .ok (.iconst 5, 1) := by decide +kernel
theorem d130_190 : decode (ai_b 130) 190 = .ok (.iload 5, 2) := by decide +kernel
theorem d130_192 : decode (ai_b 130) 192 = .ok (.imul, 1) := by decide +kernel
theorem d130_193 : decode (ai_b 130) 193 = .ok (.aload_n 0, 1) := by decide +kernel
theorem d130_194 : decode (ai_b 130) 194 = .ok (.getfield 30, 3) := by decide +kernel
theorem d130_197 : decode (ai_b 130) 197 = .ok (.iadd, 1) := by decide +kernel
theorem d130_198 : decode (ai_b 130) 198 = .ok (.iconst (-1), 1) := by decide +kernel
theorem d130_199 : decode (ai_b 130) 199 = .ok (.iastore, 1) := by decide +kernel
theorem d130_200 : decode (ai_b 130) 200 = .ok (.iconst 0, 1) := by decide +kernel
theorem d130_201 : decode (ai_b 130) 201 = .ok (.istore 6, 2) := by decide +kernel
theorem d130_203 : decode (ai_b 130) 203 = .ok (.iload 6, 2) := by decide +kernel
theorem d130_205 : decode (ai_b 130) 205 = .ok (.bipush 24, 2) := by decide +kernel
theorem d130_207 : decode (ai_b 130) 207 = .ok (.if_icmp .ge 31, 3) := by decide +kernel
theorem d130_210 : decode (ai_b 130) 210 = .ok (.aload_n 0, 1) := by decide +kernel
theorem d130_211 : decode (ai_b 130) 211 = .ok (.getfield 61, 3) := by decide +kernel
theorem d130_214 : decode (ai_b 130) 214 = .ok (.sipush 200, 3) := by decide +kernel
theorem d130_217 : decode (ai_b 130) 217 = .ok (.iload 6, 2) := by decide +kernel
theorem d130_219 : decode (ai_b 130) 219 = .ok (.imul, 1) := by decide +kernel
theorem d130_220 : decode (ai_b 130) 220 = .ok (.iconst 5, 1) := by decide +kernel
theorem d130_221 : decode (ai_b 130) 221 = .ok (.iload 5, 2) := by decide +kernel
theorem d130_223 : decode (ai_b 130) 223 = .ok (.imul, 1) := by decide +kernel
theorem d130_224 : decode (ai_b 130) 224 = .ok (.iadd, 1) := by decide +kernel
theorem d130_225 : decode (ai_b 130) 225 = .ok (.aload_n 0, 1) := by decide +kernel
theorem d130_226 : decode (ai_b 130) 226 = .ok (.getfield 30, 3) := by decide +kernel
theorem d130_229 : decode (ai_b 130) 229 = .ok (.iadd, 1) := by decide +kernel
theorem d130_230 : decode (ai_b 130) 230 = .ok (.iconst (-1), 1) := by decide +kernel
theorem d130_231 : decode (ai_b 130) 231 = .ok (.iastore, 1) := by decide +kernel
theorem d130_232 : decode (ai_b 130) 232 = .ok (.iinc 6 1, 3) := by decide +kernel
theorem d130_235 : decode (ai_b 130) 235 = .ok (.goto (-32), 3) := by decide +kernel
theorem d130_238 : decode (ai_b 130) 238 = .ok (.iinc 5 1, 3) := by decide +kernel
theorem d130_241 : decode (ai_b 130) 241 = .ok (.goto (-78), 3) := by decide +kernel
theorem d130_244 : decode (ai_b 130) 244 = .ok (.aload_n 0, 1) := by decide +kernel
theorem d130_245 : decode (ai_b 130) 245 = .ok (.dup, 1) := by decide +kernel
theorem d130_246 : decode (ai_b 130) 246 = .ok (.getfield 30, 3) := by decide +kernel
theorem d130_249 : decode (ai_b 130) 249 = .ok (.iconst 1, 1) := by decide +kernel
theorem d130_250 : decode (ai_b 130) 250 = .ok (.iadd, 1) := by decide +kernel
theorem d130_251 : decode (ai_b 130) 251 = .ok (.putfield 30, 3) := by decide +kernel
theorem d130_254 : decode (ai_b 130) 254 = .ok (.aload_n 0, 1) := by decide +kernel
theorem d130_255 : decode (ai_b 130) 255 = .ok (.getfield 30, 3) := by decide +kernel
theorem d130_258 : decode (ai_b 130) 258 = .ok (.iconst 1, 1) := by decide +kernel
theorem d130_259 : decode (ai_b 130) 259 = .ok (.isub, 1) := by decide +kernel
theorem d130_260 : decode (ai_b 130) 260 = .ok (.ireturn, 1) := by decide +kernel
theorem d131_0 : decode (ai_b 131) 0 = .ok (.iload_n 1, 1) := by decide +kernel
theorem d131_1 : decode (ai_b 131) 1 = .ok (.ifCond .ge 10, 3) := by decide +kernel
theorem d131_4 : decode (ai_b 131) 4 = .ok (.aload_n 0, 1) := by decide +kernel
theorem d131_5 : decode (ai_b 131) 5 = .ok (.bipush (-4), 2) := by decide +kernel
theorem d131_7 : decode (ai_b 131) 7 = .ok (.invokevirtual 121, 3) := by decide +kernel
theorem d131_10 : decode (ai_b 131) 10 = .ok (.ireturn, 1) := by decide +kernel
theorem d131_11 : decode (ai_b 131) 11 = .ok (.iload_n 1, 1) := by decide +kernel
theorem d131_12 : decode (ai_b 131) 12 = .ok (.bipush 40, 2) := by decide +kernel
theorem d131_14 : decode (ai_b 131) 14 = .ok (.aload_n 0, 1) := by decide +kernel
theorem d131_15 : decode (ai_b 131) 15 = .ok (.getfield 26, 3) := by decide +kernel
theorem d131_18 : decode (ai_b 131) 18 = .ok (.isub, 1) := by decide +kernel
theorem d131_19 : decode (ai_b 131) 19 = .ok (.if_icmp .le 10, 3) := by decide +kernel
theorem d131_22 : decode (ai_b 131) 22 = .ok (.aload_n 0, 1) := by decide +kernel
theorem d131_23 : decode (ai_b 131) 23 = .ok (.bipush (-7), 2) := by decide +kernel
theorem d131_25 : decode (ai_b 131) 25 = .ok (.invokevirtual 121, 3) := by decide +kernel
theorem d131_28 : decode (ai_b 131) 28 = .ok (.ireturn, 1) := by decide +kernel
theorem d131_29 : decode (ai_b 131) 29 = .ok (.aload_n 0, 1) := by decide +kernel
theorem d131_30 : decode (ai_b 131) 30 = .ok (.dup, 1) := by decide +kernel
theorem d131_31 : decode (ai_b 131) 31 = .ok (.getfield 26, 3) := by decide +kernel
theorem d131_34 : decode (ai_b 131) 34 = .ok (.iload_n 1, 1) := by decide +kernel
theorem d131_35 : decode (ai_b 131) 35 = .ok (.iadd, 1) := by decide +kernel
theorem d131_36 : decode (ai_b 131) 36 = .ok (.putfield 26, 3) := by decide +kernel
theorem d131_39 : decode (ai_b 131) 39 = .ok (.aload_n 0, 1) := by decide +kernel
theorem d131_40 : decode (ai_b 131) 40 = .ok (.getfield 26, 3) := by decide +kernel
theorem d131_43 : decode (ai_b 131) 43 = .ok (.ireturn, 1) := by decide +kernel
theorem d132_0 : decode (ai_b 132) 0 = .ok (.aload_n 0, 1) := by decide +kernel
theorem d132_1 : decode (ai_b 132) 1 = .ok (.getfield 33, 3) := by decide +kernel
theorem d132_4 : decode (ai_b 132) 4 = .ok (.bipush 24, 2) := by decide +kernel
theorem d132_6 : decode (ai_b 132) 6 = .ok (.if_icmp .ne 10, 3) := by decide +kernel
theorem d132_9 : decode (ai_b 132) 9 = .ok (.aload_n 0, 1) := by decide +kernel
theorem d132_10 : decode (ai_b 132) 10 = .ok (.bipush (-7), 2) := by decide +kernel
theorem d132_12 : decode (ai_b 132) 12 = .ok (.invokevirtual 121, 3) := by decide +kernel
theorem d132_15 : decode (ai_b 132) 15 = .ok (.ireturn, 1) := by decide +kernel
theorem d132_16 : decode (ai_b 132) 16 = .ok (.aload_n 0, 1) := by decide +kernel
theorem d132_17 : decode (ai_b 132) 17 = .ok (.dup, 1) := by decide +kernel
theorem d132_18 : decode (ai_b 132) 18 = .ok (.getfield 33, 3) := by decide +kernel
theorem d132_21 : decode (ai_b 132) 21 = .ok (.iconst 1, 1) := by decide +kernel
theorem d132_22 : decode (ai_b 132) 22 = .ok (.iadd, 1) := by decide +kernel
theorem d132_23 : decode (ai_b 132) 23 = .ok (.putfield 33, 3) := by decide +kernel
theorem d132_26 : decode (ai_b 132) 26 = .ok (.aload_n 0, 1) := by decide +kernel
theorem d132_27 : decode (ai_b 132) 27 = .ok (.iconst 1, 1) := by decide +kernel
theorem d132_28 : decode (ai_b 132) 28 = .ok (.putfield 73, 3) := by decide +kernel
theorem d132_31 : decode (ai_b 132) 31 = .ok (.aload_n 0, 1) := by decide +kernel
theorem d132_32 : decode (ai_b 132) 32 = .ok (.getfield 33, 3) := by decide +kernel
theorem d132_35 : decode (ai_b 132) 35 = .ok (.iconst 1, 1) := by decide +kernel
theorem d132_36 : decode (ai_b 132) 36 = .ok (.isub, 1) := by decide +kernel
theorem d132_37 : decode (ai_b 132) 37 = .ok (.ireturn, 1) := by decide +kernel
theorem d133_0 : decode (ai_b 133) 0 = .ok (.aload_n 0, 1) := by decide +kernel
theorem d133_1 : decode (ai_b 133) 1 = .ok (.iload_n 1, 1) := by decide +kernel
theorem d133_2 : decode (ai_b 133) 2 = .ok (.iload_n 2, 1) := by decide +kernel
theorem d133_3 : decode (ai_b 133) 3 = .ok (.invokevirtual 144, 3) := by decide +kernel
theorem d133_6 : decode (ai_b 133) 6 = .ok (.ifCond .ne 9, 3) := by decide +kernel
theorem d133_9 : decode (ai_b 133) 9 = .ok (.aload_n 0, 1) := by decide +kernel
theorem d133_10 : decode (ai_b 133) 10 = .ok (.iconst (-1), 1) := by decide +kernel
theorem d133_11 : decode (ai_b 133) 11 = .ok (.invokevirtual 121, 3) := by decide +kernel
theorem d133_14 : decode (ai_b 133) 14 = .ok (.ireturn, 1) := by decide +kernel
theorem d133_15 : decode (ai_b 133) 15 = .ok (.aload_n 0, 1) := by decide +kernel
theorem d133_16 : decode (ai_b 133) 16 = .ok (.iload_n 3, 1) := by decide +kernel
theorem d133_17 : decode (ai_b 133) 17 = .ok (.iconst (-1), 1) := by decide +kernel
theorem d133_18 : decode (ai_b 133) 18 = .ok (.aload_n 0, 1) := by decide +kernel
theorem d133_19 : decode (ai_b 133) 19 = .ok (.getfield 36, 3) := by decide +kernel
theorem d133_22 : decode (ai_b 133) 22 = .ok (.iload_n 2, 1) := by decide +kernel
theorem d133_23 : decode (ai_b 133) 23 = .ok (.iaload, 1) := by decide +kernel
theorem d133_24 : decode (ai_b 133) 24 = .ok (.iconst 1, 1) := by decide +kernel
theorem d133_25 : decode (ai_b 133) 25 = .ok (.isub, 1) := by decide +kernel
theorem d133_26 : decode (ai_b 133) 26 = .ok (.invokevirtual 113, 3) := by decide +kernel
theorem d133_29 : decode (ai_b 133) 29 = .ok (.ifCond .ne 10, 3) := by decide +kernel
theorem d133_32 : decode (ai_b 133) 32 = .ok (.aload_n 0, 1) := by decide +kernel
theorem d133_33 : decode (ai_b 133) 33 = .ok (.bipush (-6), 2) := by decide +kernel
theorem d133_35 : decode (ai_b 133) 35 = .ok (.invokevirtual 121, 3) := by decide +kernel
theorem d133_38 : decode (ai_b 133) 38 = .ok (.ireturn, 1) := by decide +kernel
theorem d133_39 : decode (ai_b 133) 39 = .ok (.aload_n 0, 1) := by decide +kernel
theorem d133_40 : decode (ai_b 133) 40 = .ok (.getfield 45, 3) := by decide +kernel
theorem d133_43 : decode (ai_b 133) 43 = .ok (.iconst 5, 1) := by decide +kernel
theorem d133_44 : decode (ai_b 133) 44 = .ok (.iload_n 1, 1) := by decide +kernel
theorem d133_45 : decode (ai_b 133) 45 = .ok (.imul, 1) := by decide +kernel
theorem d133_46 : decode (ai_b 133) 46 = .ok (.iload_n 2, 1) := by decide +kernel
theorem d133_47 : decode (ai_b 133) 47 = .ok (.iadd, 1) := by decide +kernel
theorem d133_48 : decode (ai_b 133) 48 = .ok (.iload_n 3, 1) := by decide +kernel
theorem d133_49 : decode (ai_b 133) 49 = .ok (.iastore, 1) := by decide +kernel
theorem d133_50 : decode (ai_b 133) 50 = .ok (.iconst 1, 1) := by decide +kernel
theorem d133_51 : decode (ai_b 133) 51 = .ok (.ireturn, 1) := by decide +kernel
theorem d134_0 : decode (ai_b 134) 0 = .ok (.aload_n 0, 1) := by decide +kernel
theorem d134_1 : decode (ai_b 134) 1 = .ok (.iload_n 1, 1) := by decide +kernel
theorem d134_2 : decode (ai_b 134) 2 = .ok (.invokevirtual 148, 3) := by decide +kernel
theorem d134_5 : decode (ai_b 134) 5 = .ok (.ifCond .eq 16, 3) := by decide +kernel
theorem d134_8 : decode (ai_b 134) 8 = .ok (.aload_n 0, 1) := by decide +kernel
theorem d134_9 : decode (ai_b 134) 9 = .ok (.iload_n 2, 1) := by decide +kernel
theorem d134_10 : decode (ai_b 134) 10 = .ok (.iload_n 3, 1) := by decide +kernel
theorem d134_11 : decode (ai_b 134) 11 = .ok (.invokevirtual 144, 3) := by decide +kernel
theorem d134_14 : decode (ai_b 134) 14 = .ok (.ifCond .eq 7, 3) := by decide +kernel
theorem d134_17 : decode (ai_b 134) 17 = .ok (.iconst 1, 1) := by decide +kernel
theorem d134_18 : decode (ai_b 134) 18 = .ok (.goto 4, 3) := by decide +kernel
theorem d134_21 : decode (ai_b 134) 21 = .ok (.iconst 0, 1) := by decide +kernel
theorem d134_22 : decode (ai_b 134) 22 = .ok (.ireturn, 1) := by decide +kernel
theorem d135_0 : decode (ai_b 135) 0 = .ok (.aload_n 0, 1) := by decide +kernel
theorem d135_1 : decode (ai_b 135) 1 = .ok (.iload 4, 2) := by decide +kernel
theorem d135_3 : decode (ai_b 135) 3 = .ok (.iconst 0, 1) := by decide +kernel
theorem d135_4 : decode (ai_b 135) 4 = .ok (.aload_n 0, 1) := by decide +kernel
theorem d135_5 : decode (ai_b 135) 5 = .ok (.getfield 36, 3) := by decide +kernel
theorem d135_8 : decode (ai_b 135) 8 = .ok (.iload_n 3, 1) := by decide +kernel
theorem d135_9 : decode (ai_b 135) 9 = .ok (.iaload, 1) := by decide +kernel
theorem d135_10 : decode (ai_b 135) 10 = .ok (.iconst 1, 1) := by decide +kernel
theorem d135_11 : decode (ai_b 135) 11 = .ok (.isub, 1) := by decide +kernel
theorem d135_12 : decode (ai_b 135) 12 = .ok (.invokevirtual 113, 3) := by decide +kernel
theorem d135_15 : decode (ai_b 135) 15 = .ok (.ifCond .eq 32, 3) := by decide +kernel
theorem d135_18 : decode (ai_b 135) 18 = .ok (.iload 5, 2) := by decide +kernel
theorem d135_20 : decode (ai_b 135) 20 = .ok (.ifCond .lt 27, 3) := by decide +kernel
theorem d135_23 : decode (ai_b 135) 23 = .ok (.aload_n 0, 1) := by decide +kernel
theorem d135_24 : decode (ai_b 135) 24 = .ok (.getfield 61, 3) := by decide +kernel
theorem d135_27 : decode (ai_b 135) 27 = .ok (.sipush 200, 3) := by decide +kernel
theorem d135_30 : decode (ai_b 135) 30 = .ok (.iload_n 1, 1) := by decide +kernel
theorem d135_31 : decode (ai_b 135) 31 = .ok (.imul, 1) := by decide +kernel
theorem d135_32 : decode (ai_b 135) 32 = .ok (.iconst 5, 1) := by decide +kernel
theorem d135_33 : decode (ai_b 135) 33 = .ok (.iload_n 2, 1) := by decide +kernel
theorem d135_34 : decode (ai_b 135) 34 = .ok (.imul, 1) := by decide +kernel
theorem d135_35 : decode (ai_b 135) 35 = .ok (.iadd, 1) := by decide +kernel
theorem d135_36 : decode (ai_b 135) 36 = .ok (.iload_n 3, 1) := by decide +kernel
theorem d135_37 : decode (ai_b 135) 37 = .ok (.iadd, 1) := by decide +kernel
theorem d135_38 : decode (ai_b 135) 38 = .ok (.iaload, 1) := by decide +kernel
theorem d135_39 : decode (ai_b 135) 39 = .ok (.iconst (-1), 1) := by decide +kernel
theorem d135_40 : decode (ai_b 135) 40 = .ok (.if_icmp .ne 7, 3) := by decide +kernel
theorem d135_43 : decode (ai_b 135) 43 = .ok (.iconst 1, 1) := by decide +kernel
theorem d135_44 : decode (ai_b 135) 44 = .ok (.goto 4, 3) := by decide +kernel
theorem d135_47 : decode (ai_b 135) 47 = .ok (.iconst 0, 1) := by decide +kernel
theorem d135_48 : decode (ai_b 135) 48 = .ok (.ireturn, 1) := by decide +kernel
theorem d136_0 : decode (ai_b 136) 0 = .ok (.sipush 200, 3) := by decide +kernel
theorem d136_3 : decode (ai_b 136) 3 = .ok (.iload_n 1, 1) := by decide +kernel
theorem d136_4 : decode (ai_b 136) 4 = .ok (.imul, 1) := by decide +kernel
theorem d136_5 : decode (ai_b 136) 5 = .ok (.iconst 5, 1) := by decide +kernel
theorem d136_6 : decode (ai_b 136) 6 = .ok (.iload_n 2, 1) := by decide +kernel
theorem d136_7 : decode (ai_b 136) 7 = .ok (.imul, 1) := by decide +kernel
theorem d136_8 : decode (ai_b 136) 8 = .ok (.iadd, 1) := by decide +kernel
theorem d136_9 : decode (ai_b 136) 9 = .ok (.iload_n 3, 1) := by decide +kernel
theorem d136_10 : decode (ai_b 136) 10 = .ok (.iadd, 1) := by decide +kernel
theorem d136_11 : decode (ai_b 136) 11 = .ok (.istore 6, 2) := by decide +kernel
theorem d136_13 : decode (ai_b 136) 13 = .ok (.aload_n 0, 1) := by decide +kernel
theorem d136_14 : decode (ai_b 136) 14 = .ok (.getfield 61, 3) := by decide +kernel
theorem d136_17 : decode (ai_b 136) 17 = .ok (.iload 6, 2) := by decide +kernel
theorem d136_19 : decode (ai_b 136) 19 = .ok (.iload 4, 2) := by decide +kernel
theorem d136_21 : decode (ai_b 136) 21 = .ok (.iastore, 1) := by decide +kernel
theorem d136_22 : decode (ai_b 136) 22 = .ok (.aload_n 0, 1) := by decide +kernel
theorem d136_23 : decode (ai_b 136) 23 = .ok (.getfield 64, 3) := by decide +kernel
theorem d136_26 : decode (ai_b 136) 26 = .ok (.iload 6, 2) := by decide +kernel
theorem d136_28 : decode (ai_b 136) 28 = .ok (.iload 5, 2) := by decide +kernel
theorem d136_30 : decode (ai_b 136) 30 = .ok (.aload_n 0, 1) := by decide +kernel
theorem d136_31 : decode (ai_b 136) 31 = .ok (.getfield 83, 3) := by decide +kernel
theorem d136_34 : decode (ai_b 136) 34 = .ok (.if_icmp .ge 7, 3) := by decide +kernel
theorem d136_37 : decode (ai_b 136) 37 = .ok (.iconst 1, 1) := by decide +kernel
theorem d136_38 : decode (ai_b 136) 38 = .ok (.goto 19, 3) := by decide +kernel
theorem d136_41 : decode (ai_b 136) 41 = .ok (.aload_n 0, 1) := by decide +kernel
theorem d136_42 : decode (ai_b 136) 42 = .ok (.getfield 55, 3) := by decide +kernel
theorem d136_45 : decode (ai_b 136) 45 = .ok (.iload_n 1, 1) := by decide +kernel
theorem d136_46 : decode (ai_b 136) 46 = .ok (.iaload, 1) := by decide +kernel
theorem d136_47 : decode (ai_b 136) 47 = .ok (.bipush 20, 2) := by decide +kernel
theorem d136_49 : decode (ai_b 136) 49 = .ok (.if_icmp .lt 7, 3) := by decide +kernel
theorem d136_52 : decode (ai_b 136) 52 = .ok (.iconst 2, 1) := by decide +kernel
theorem d136_53 : decode (ai_b 136) 53 = .ok (.goto 4, 3) := by decide +kernel
theorem d136_56 : decode (ai_b 136) 56 = .ok (.iconst 0, 1) := by decide +kernel
theorem d136_57 : decode (ai_b 136) 57 = .ok (.iastore, 1) := by decide +kernel
theorem d136_58 : decode (ai_b 136) 58 = .ok (.aload_n 0, 1) := by decide +kernel
theorem d136_59 : decode (ai_b 136) 59 = .ok (.getfield 55, 3) := by decide +kernel
theorem d136_62 : decode (ai_b 136) 62 = .ok (.iload_n 1, 1) := by decide +kernel
theorem d136_63 : decode (ai_b 136) 63 = .ok (.dup2, 1) := by decide +kernel
theorem d136_64 : decode (ai_b 136) 64 = .ok (.iaload, 1) := by decide +kernel
theorem d136_65 : decode (ai_b 136) 65 = .ok (.iconst 1, 1) := by decide +kernel
theorem d136_66 : decode (ai_b 136) 66 = .ok (.iadd, 1) := by decide +kernel
theorem d136_67 : decode (ai_b 136) 67 = .ok (.iastore, 1) := by decide +kernel
theorem d136_68 : decode (ai_b 136) 68 = .ok (.aload_n 0, 1) := by decide +kernel
theorem d136_69 : decode (ai_b 136) 69 = .ok (.getfield 58, 3) := by decide +kernel
theorem d136_72 : decode (ai_b 136) 72 = .ok (.iload_n 1, 1) := by decide +kernel
theorem d136_73 : decode (ai_b 136) 73 = .ok (.dup2, 1) := by decide +kernel
theorem d136_74 : decode (ai_b 136) 74 = .ok (.iaload, 1) := by decide +kernel
theorem d136_75 : decode (ai_b 136) 75 = .ok (.iconst 1, 1) := by decide +kernel
theorem d136_76 : decode (ai_b 136) 76 = .ok (.iadd, 1) := by decide +kernel
theorem d136_77 : decode (ai_b 136) 77 = .ok (.iastore, 1) := by decide +kernel
theorem d136_78 : decode (ai_b 136) 78 = .ok (.aload_n 0, 1) := by decide +kernel
theorem d136_79 : decode (ai_b 136) 79 = .ok (.iconst 1, 1) := by decide +kernel
theorem d136_80 : decode (ai_b 136) 80 = .ok (.putfield 73, 3) := by decide +kernel
theorem d136_83 : decode (ai_b 136) 83 = .ok (.aload_n 0, 1) := by decide +kernel
theorem d136_84 : decode (ai_b 136) 84 = .ok (.getfield 64, 3) := by decide +kernel
theorem d136_87 : decode (ai_b 136) 87 = .ok (.iload 6, 2) := by decide +kernel
theorem d136_89 : decode (ai_b 136) 89 = .ok (.iaload, 1) := by decide +kernel
theorem d136_90 : decode (ai_b 136) 90 = .ok (.ireturn, 1) := by decide +kernel
theorem d137_0 : decode (ai_b 137) 0 = .ok (.aload_n 0, 1) := by decide +kernel
theorem d137_1 : decode (ai_b 137) 1 = .ok (.iload_n 1, 1) := by decide +kernel
theorem d137_2 : decode (ai_b 137) 2 = .ok (.iload_n 2, 1) := by decide +kernel
theorem d137_3 : decode (ai_b 137) 3 = .ok (.iload_n 3, 1) := by decide +kernel
theorem d137_4 : decode (ai_b 137) 4 = .ok (.invokevirtual 151, 3) := by decide +kernel
theorem d137_7 : decode (ai_b 137) 7 = .ok (.ifCond .ne 9, 3) := by decide +kernel
theorem d137_10 : decode (ai_b 137) 10 = .ok (.aload_n 0, 1) := by decide +kernel
theorem d137_11 : decode (ai_b 137) 11 = .ok (.iconst (-1), 1) := by decide +kernel
theorem d137_12 : decode (ai_b 137) 12 = .ok (.invokevirtual 121, 3) := by decide +kernel
theorem d137_15 : decode (ai_b 137) 15 = .ok (.ireturn, 1) := by decide +kernel
theorem d137_16 : decode (ai_b 137) 16 = .ok (.aload_n 0, 1) := by decide +kernel
theorem d137_17 : decode (ai_b 137) 17 = .ok (.iload_n 1, 1) := by decide +kernel
theorem d137_18 : decode (ai_b 137) 18 = .ok (.iload_n 2, 1) := by decide +kernel
theorem d137_19 : decode (ai_b 137) 19 = .ok (.iload_n 3, 1) := by decide +kernel
theorem d137_20 : decode (ai_b 137) 20 = .ok (.iload 4, 2) := by decide +kernel
theorem d137_22 : decode (ai_b 137) 22 = .ok (.iload 5, 2) := by decide +kernel
theorem d137_24 : decode (ai_b 137) 24 = .ok (.invokevirtual 154, 3) := by decide +kernel
theorem d137_27 : decode (ai_b 137) 27 = .ok (.ifCond .ne 10, 3) := by decide +kernel
theorem d137_30 : decode (ai_b 137) 30 = .ok (.aload_n 0, 1) := by decide +kernel
theorem d137_31 : decode (ai_b 137) 31 = .ok (.bipush (-6), 2) := by decide +kernel
theorem d137_33 : decode (ai_b 137) 33 = .ok (.invokevirtual 121, 3) := by decide +kernel
theorem d137_36 : decode (ai_b 137) 36 = .ok (.ireturn, 1) := by decide +kernel
theorem d137_37 : decode (ai_b 137) 37 = .ok (.aload_n 0, 1) := by decide +kernel
theorem d137_38 : decode (ai_b 137) 38 = .ok (.iload_n 1, 1) := by decide +kernel
theorem d137_39 : decode (ai_b 137) 39 = .ok (.iload_n 2, 1) := by decide +kernel
theorem d137_40 : decode (ai_b 137) 40 = .ok (.iload_n 3, 1) := by decide +kernel
theorem d137_41 : decode (ai_b 137) 41 = .ok (.iload 4, 2) := by decide +kernel
theorem d137_43 : decode (ai_b 137) 43 = .ok (.iload 5, 2) := by decide +kernel
theorem d137_45 : decode (ai_b 137) 45 = .ok (.invokevirtual 158, 3) := by decide +kernel
theorem d137_48 : decode (ai_b 137) 48 = .ok (.istore 6, 2) := by decide +kernel
theorem d137_50 : decode (ai_b 137) 50 = .ok (.iload 6, 2) := by decide +kernel
theorem d137_52 : decode (ai_b 137) 52 = .ok (.ifCond .ne 7, 3) := by decide +kernel
theorem d137_55 : decode (ai_b 137) 55 = .ok (.iconst 0, 1) := by decide +kernel
theorem d137_56 : decode (ai_b 137) 56 = .ok (.goto 5, 3) := by decide +kernel
theorem d137_59 : decode (ai_b 137) 59 = .ok (.iload 6, 2) := by decide +kernel
theorem d137_61 : decode (ai_b 137) 61 = .ok (.ireturn, 1) := by decide +kernel
theorem d138_0 : decode (ai_b 138) 0 = .ok (.aload_n 0, 1) := by decide +kernel
theorem d138_1 : decode (ai_b 138) 1 = .ok (.iload_n 1, 1) := by decide +kernel
theorem d138_2 : decode (ai_b 138) 2 = .ok (.invokevirtual 117, 3) := by decide +kernel
theorem d138_5 : decode (ai_b 138) 5 = .ok (.ifCond .ne 9, 3) := by decide +kernel
theorem d138_8 : decode (ai_b 138) 8 = .ok (.aload_n 0, 1) := by decide +kernel
theorem d138_9 : decode (ai_b 138) 9 = .ok (.iconst (-1), 1) := by decide +kernel
theorem d138_10 : decode (ai_b 138) 10 = .ok (.invokevirtual 121, 3) := by decide +kernel
theorem d138_13 : decode (ai_b 138) 13 = .ok (.ireturn, 1) := by decide +kernel
theorem d138_14 : decode (ai_b 138) 14 = .ok (.aload_n 0, 1) := by decide +kernel
theorem d138_15 : decode (ai_b 138) 15 = .ok (.getfield 13, 3) := by decide +kernel
theorem d138_18 : decode (ai_b 138) 18 = .ok (.iload_n 1, 1) := by decide +kernel
theorem d138_19 : decode (ai_b 138) 19 = .ok (.iaload, 1) := by decide +kernel
theorem d138_20 : decode (ai_b 138) 20 = .ok (.ifCond .lt 18, 3) := by decide +kernel
theorem d138_23 : decode (ai_b 138) 23 = .ok (.aload_n 0, 1) := by decide +kernel
theorem d138_24 : decode (ai_b 138) 24 = .ok (.iload_n 1, 1) := by decide +kernel
theorem d138_25 : decode (ai_b 138) 25 = .ok (.invokevirtual 125, 3) := by decide +kernel
theorem d138_28 : decode (ai_b 138) 28 = .ok (.ifCond .ne 10, 3) := by decide +kernel
theorem d138_31 : decode (ai_b 138) 31 = .ok (.aload_n 0, 1) := by decide +kernel
theorem d138_32 : decode (ai_b 138) 32 = .ok (.bipush (-2), 2) := by decide +kernel
theorem d138_34 : decode (ai_b 138) 34 = .ok (.invokevirtual 121, 3) := by decide +kernel
theorem d138_37 : decode (ai_b 138) 37 = .ok (.ireturn, 1) := by decide +kernel
theorem d138_38 : decode (ai_b 138) 38 = .ok (.aload_n 0, 1) := by decide +kernel
theorem d138_39 : decode (ai_b 138) 39 = .ok (.getfield 13, 3) := by decide +kernel
theorem d138_42 : decode (ai_b 138) 42 = .ok (.iload_n 1, 1) := by decide +kernel
theorem d138_43 : decode (ai_b 138) 43 = .ok (.iaload, 1) := by decide +kernel
theorem d138_44 : decode (ai_b 138) 44 = .ok (.ifCond .ge 10, 3) := by decide +kernel
theorem d138_47 : decode (ai_b 138) 47 = .ok (.aload_n 0, 1) := by decide +kernel
theorem d138_48 : decode (ai_b 138) 48 = .ok (.bipush (-3), 2) := by decide +kernel
theorem d138_50 : decode (ai_b 138) 50 = .ok (.invokevirtual 121, 3) := by decide +kernel
theorem d138_53 : decode (ai_b 138) 53 = .ok (.ireturn, 1) := by decide +kernel
theorem d138_54 : decode (ai_b 138) 54 = .ok (.iconst 0, 1) := by decide +kernel
theorem d138_55 : decode (ai_b 138) 55 = .ok (.istore_n 2, 1) := by decide +kernel
theorem d138_56 : decode (ai_b 138) 56 = .ok (.iconst 1, 1) := by decide +kernel
theorem d138_57 : decode (ai_b 138) 57 = .ok (.istore_n 3, 1) := by decide +kernel
theorem d138_58 : decode (ai_b 138) 58 = .ok (.iload_n 3, 1) := by decide +kernel
theorem d138_59 : decode (ai_b 138) 59 = .ok (.ifCond .eq 150, 3) := by decide +kernel
theorem d138_62 : decode (ai_b 138) 62 = .ok (.iconst 5, 1) := by decide +kernel
theorem d138_63 : decode (ai_b 138) 63 = .ok (.iload_n 2, 1) := by decide +kernel
theorem d138_64 : decode (ai_b 138) 64 = .ok (.imul, 1) := by decide +kernel
theorem d138_65 : decode (ai_b 138) 65 = .ok (.iconst 5, 1) := by decide +kernel
theorem d138_66 : decode (ai_b 138) 66 = .ok (.iadd, 1) := by decide +kernel
theorem d138_67 : decode (ai_b 138) 67 = .ok (.aload_n 0, 1) := by decide +kernel
theorem d138_68 : decode (ai_b 138) 68 = .ok (.getfield 16, 3) := by decide +kernel
theorem d138_71 : decode (ai_b 138) 71 = .ok (.iload_n 1, 1) := by decide +kernel
theorem d138_72 : decode (ai_b 138) 72 = .ok (.iaload, 1) := by decide +kernel
theorem d138_73 : decode (ai_b 138) 73 = .ok (.if_icmp .gt 136, 3) := by decide +kernel
theorem d138_76 : decode (ai_b 138) 76 = .ok (.bipush 100, 2) := by decide +kernel
theorem d138_78 : decode (ai_b 138) 78 = .ok (.iload_n 1, 1) := by decide +kernel
theorem d138_79 : decode (ai_b 138) 79 = .ok (.imul, 1) := by decide +kernel
theorem d138_80 : decode (ai_b 138) 80 = .ok (.iconst 5, 1) := by decide +kernel
theorem d138_81 : decode (ai_b 138) 81 = .ok (.iload_n 2, 1) := by decide +kernel
theorem d138_82 : decode (ai_b 138) 82 = .ok (.imul, 1) := by decide +kernel
theorem d138_83 : decode (ai_b 138) 83 = .ok (.iadd, 1) := by decide +kernel
theorem d138_84 : decode (ai_b 138) 84 = .ok (.istore 4, 2) := by decide +kernel
theorem d138_86 : decode (ai_b 138) 86 = .ok (.aload_n 0, 1) := by decide +kernel
theorem d138_87 : decode (ai_b 138) 87 = .ok (.getfield 19, 3) := by decide +kernel
theorem d138_90 : decode (ai_b 138) 90 = .ok (.iload 4, 2) := by decide +kernel
theorem d138_92 : decode (ai_b 138) 92 = .ok (.laload, 1) := by decide +kernel
theorem d138_93 : decode (ai_b 138) 93 = .ok (.l2i, 1) := by decide +kernel
theorem d138_94 : decode (ai_b 138) 94 = .ok (.istore 5, 2) := by decide +kernel
theorem d138_96 : decode (ai_b 138) 96 = .ok (.aload_n 0, 1) := by decide +kernel
theorem d138_97 : decode (ai_b 138) 97 = .ok (.getfield 19, 3) := by decide +kernel
theorem d138_100 : decode (ai_b 138) 100 = .ok (.iload 4, 2) := by decide +kernel
theorem d138_102 : decode (ai_b 138) 102 = .ok (.iconst 1, 1) := by decide +kernel
theorem d138_103 : decode (ai_b 138) 103 = .ok (.iadd, 1) := by decide +kernel
theorem d138_104 : decode (ai_b 138) 104 = .ok (.laload, 1) := by decide +kernel
theorem d138_105 : decode (ai_b 138) 105 = .ok (.l2i, 1) := by decide +kernel
theorem d138_106 : decode (ai_b 138) 106 = .ok (.istore 6, 2) := by decide +kernel
theorem d138_108 : decode (ai_b 138) 108 = .ok (.aload_n 0, 1) := by decide +kernel
theorem d138_109 : decode (ai_b 138) 109 = .ok (.getfield 19, 3) := by decide +kernel
theorem d138_112 : decode (ai_b 138) 112 = .ok (.iload 4, 2) := by decide +kernel
theorem d138_114 : decode (ai_b 138) 114 = .ok (.iconst 2, 1) := by decide +kernel
theorem d138_115 : decode (ai_b 138) 115 = .ok (.iadd, 1) := by decide +kernel
theorem d138_116 : decode (ai_b 138) 116 = .ok (.laload, 1) := by decide +kernel
theorem d138_117 : decode (ai_b 138) 117 = .ok (.l2i, 1) := by decide +kernel
theorem d138_118 : decode (ai_b 138) 118 = .ok (.istore 7, 2) := by decide +kernel
theorem d138_120 : decode (ai_b 138) 120 = .ok (.aload_n 0, 1) := by decide +kernel
theorem d138_121 : decode (ai_b 138) 121 = .ok (.getfield 19, 3) := by decide +kernel
theorem d138_124 : decode (ai_b 138) 124 = .ok (.iload 4, 2) := by decide +kernel
theorem d138_126 : decode (ai_b 138) 126 = .ok (.iconst 3, 1) := by decide +kernel
theorem d138_127 : decode (ai_b 138) 127 = .ok (.iadd, 1) := by decide +kernel
theorem d138_128 : decode (ai_b 138) 128 = .ok (.laload, 1) := by decide +kernel
theorem d138_129 : decode (ai_b 138) 129 = .ok (.l2i, 1) := by decide +kernel
theorem d138_130 : decode (ai_b 138) 130 = .ok (.istore 8, 2) := by decide +kernel
theorem d138_132 : decode (ai_b 138) 132 = .ok (.aload_n 0, 1) := by decide +kernel
theorem d138_133 : decode (ai_b 138) 133 = .ok (.getfield 19, 3) := by decide +kernel
theorem d138_136 : decode (ai_b 138) 136 = .ok (.iload 4, 2) := by decide +kernel
theorem d138_138 : decode (ai_b 138) 138 = .ok (.iconst 4, 1) := by decide +kernel
theorem d138_139 : decode (ai_b 138) 139 = .ok (.iadd, 1) := by decide +kernel
theorem d138_140 : decode (ai_b 138) 140 = .ok (.laload, 1) := by decide +kernel
theorem d138_141 : decode (ai_b 138) 141 = .ok (.l2i, 1) := by decide +kernel
theorem d138_142 : decode (ai_b 138) 142 = .ok (.istore 9, 2) := by decide +kernel
theorem d138_144 : decode (ai_b 138) 144 = .ok (.aload_n 0, 1) := by decide +kernel
theorem d138_145 : decode (ai_b 138) 145 = .ok (.iload 5, 2) := by decide +kernel
theorem d138_147 : decode (ai_b 138) 147 = .ok (.iload 6, 2) := by decide +kernel
theorem d138_149 : decode (ai_b 138) 149 = .ok (.iload 7, 2) := by decide +kernel
theorem d138_151 : decode (ai_b 138) 151 = .ok (.invokevirtual 151, 3) := by decide +kernel
theorem d138_154 : decode (ai_b 138) 154 = .ok (.ifCond .eq 24, 3) := by decide +kernel
theorem d138_157 : decode (ai_b 138) 157 = .ok (.aload_n 0, 1) := by decide +kernel
theorem d138_158 : decode (ai_b 138) 158 = .ok (.iload 5, 2) := by decide +kernel
theorem d138_160 : decode (ai_b 138) 160 = .ok (.iload 6, 2) := by decide +kernel
theorem d138_162 : decode (ai_b 138) 162 = .ok (.iload 7, 2) := by decide +kernel
theorem d138_164 : decode (ai_b 138) 164 = .ok (.iload 8, 2) := by decide +kernel
theorem d138_166 : decode (ai_b 138) 166 = .ok (.iload 9, 2) := by decide +kernel
theorem d138_168 : decode (ai_b 138) 168 = .ok (.invokevirtual 154, 3) := by decide +kernel
theorem d138_171 : decode (ai_b 138) 171 = .ok (.ifCond .eq 7, 3) := by decide +kernel
theorem d138_174 : decode (ai_b 138) 174 = .ok (.iconst 1, 1) := by decide +kernel
theorem d138_175 : decode (ai_b 138) 175 = .ok (.goto 4, 3) := by decide +kernel
theorem d138_178 : decode (ai_b 138) 178 = .ok (.iconst 0, 1) := by decide +kernel
theorem d138_179 : decode (ai_b 138) 179 = .ok (.istore_n 3, 1) := by decide +kernel
theorem d138_180 : decode (ai_b 138) 180 = .ok (.iload_n 3, 1) := by decide +kernel
theorem d138_181 : decode (ai_b 138) 181 = .ok (.ifCond .ne 6, 3) := by decide +kernel
theorem d138_184 : decode (ai_b 138) 184 = .ok (.goto (-126), 3) := by decide +kernel
theorem d138_187 : decode (ai_b 138) 187 = .ok (.aload_n 0, 1) := by decide +kernel
theorem d138_188 : decode (ai_b 138) 188 = .ok (.iload 5, 2) := by decide +kernel
theorem d138_190 : decode (ai_b 138) 190 = .ok (.iload 6, 2) := by decide +kernel
theorem d138_192 : decode (ai_b 138) 192 = .ok (.iload 7, 2) := by decide +kernel
theorem d138_194 : decode (ai_b 138) 194 = .ok (.iload 8, 2) := by decide +kernel
theorem d138_196 : decode (ai_b 138) 196 = .ok (.iload 9, 2) := by decide +kernel
theorem d138_198 : decode (ai_b 138) 198 = .ok (.invokevirtual 158, 3) := by decide +kernel
theorem d138_201 : decode (ai_b 138) 201 = .ok (.istore 10, 2) := by decide +kernel
theorem d138_203 : decode (ai_b 138) 203 = .ok (.iinc 2 1, 3) := by decide +kernel
theorem d138_206 : decode (ai_b 138) 206 = .ok (.goto (-148), 3) := by decide +kernel
theorem d138_209 : decode (ai_b 138) 209 = .ok (.iload_n 2, 1) := by decide +kernel
theorem d138_210 : decode (ai_b 138) 210 = .ok (.ireturn, 1) := by decide +kernel
theorem d139_0 : decode (ai_b 139) 0 = .ok (.aload_n 0, 1) := by decide +kernel
theorem d139_1 : decode (ai_b 139) 1 = .ok (.iload_n 1, 1) := by decide +kernel
theorem d139_2 : decode (ai_b 139) 2 = .ok (.invokevirtual 148, 3) := by decide +kernel
theorem d139_5 : decode (ai_b 139) 5 = .ok (.ifCond .ne 9, 3) := by decide +kernel
theorem d139_8 : decode (ai_b 139) 8 = .ok (.aload_n 0, 1) := by decide +kernel
theorem d139_9 : decode (ai_b 139) 9 = .ok (.iconst (-1), 1) := by decide +kernel
theorem d139_10 : decode (ai_b 139) 10 = .ok (.invokevirtual 121, 3) := by decide +kernel
theorem d139_13 : decode (ai_b 139) 13 = .ok (.ireturn, 1) := by decide +kernel
theorem d139_14 : decode (ai_b 139) 14 = .ok (.aload_n 0, 1) := by decide +kernel
theorem d139_15 : decode (ai_b 139) 15 = .ok (.getfield 55, 3) := by decide +kernel
theorem d139_18 : decode (ai_b 139) 18 = .ok (.iload_n 1, 1) := by decide +kernel
theorem d139_19 : decode (ai_b 139) 19 = .ok (.iconst 0, 1) := by decide +kernel
theorem d139_20 : decode (ai_b 139) 20 = .ok (.iastore, 1) := by decide +kernel
theorem d139_21 : decode (ai_b 139) 21 = .ok (.iconst 1, 1) := by decide +kernel
theorem d139_22 : decode (ai_b 139) 22 = .ok (.ireturn, 1) := by decide +kernel
theorem d140_0 : decode (ai_b 140) 0 = .ok (.aload_n 0, 1) := by decide +kernel
theorem d140_1 : decode (ai_b 140) 1 = .ok (.iload_n 1, 1) := by decide +kernel
theorem d140_2 : decode (ai_b 140) 2 = .ok (.invokevirtual 148, 3) := by decide +kernel
theorem d140_5 : decode (ai_b 140) 5 = .ok (.ifCond .ne 9, 3) := by decide +kernel
theorem d140_8 : decode (ai_b 140) 8 = .ok (.aload_n 0, 1) := by decide +kernel
theorem d140_9 : decode (ai_b 140) 9 = .ok (.iconst (-1), 1) := by decide +kernel
theorem d140_10 : decode (ai_b 140) 10 = .ok (.invokevirtual 121, 3) := by decide +kernel
theorem d140_13 : decode (ai_b 140) 13 = .ok (.ireturn, 1) := by decide +kernel
theorem d140_14 : decode (ai_b 140) 14 = .ok (.aload_n 0, 1) := by decide +kernel
theorem d140_15 : decode (ai_b 140) 15 = .ok (.getfield 51, 3) := by decide +kernel
theorem d140_18 : decode (ai_b 140) 18 = .ok (.iload_n 1, 1) := by decide +kernel
theorem d140_19 : decode (ai_b 140) 19 = .ok (.iconst 1, 1) := by decide +kernel
theorem d140_20 : decode (ai_b 140) 20 = .ok (.bastore, 1) := by decide +kernel
theorem d140_21 : decode (ai_b 140) 21 = .ok (.aload_n 0, 1) := by decide +kernel
theorem d140_22 : decode (ai_b 140) 22 = .ok (.iconst 1, 1) := by decide +kernel
theorem d140_23 : decode (ai_b 140) 23 = .ok (.putfield 73, 3) := by decide +kernel
theorem d140_26 : decode (ai_b 140) 26 = .ok (.aload_n 0, 1) := by decide +kernel
theorem d140_27 : decode (ai_b 140) 27 = .ok (.getfield 58, 3) := by decide +kernel
theorem d140_30 : decode (ai_b 140) 30 = .ok (.iload_n 1, 1) := by decide +kernel
theorem d140_31 : decode (ai_b 140) 31 = .ok (.iaload, 1) := by decide +kernel
theorem d140_32 : decode (ai_b 140) 32 = .ok (.ireturn, 1) := by decide +kernel
theorem d141_0 : decode (ai_b 141) 0 = .ok (.iload_n 1, 1) := by decide +kernel
theorem d141_1 : decode (ai_b 141) 1 = .ok (.ifCond .ne 15, 3) := by decide +kernel
theorem d141_4 : decode (ai_b 141) 4 = .ok (.aload_n 0, 1) := by decide +kernel
theorem d141_5 : decode (ai_b 141) 5 = .ok (.iload_n 2, 1) := by decide +kernel
theorem d141_6 : decode (ai_b 141) 6 = .ok (.iconst 1, 1) := by decide +kernel
theorem d141_7 : decode (ai_b 141) 7 = .ok (.sipush 1000, 3) := by decide +kernel
theorem d141_10 : decode (ai_b 141) 10 = .ok (.invokevirtual 113, 3) := by decide +kernel
theorem d141_13 : decode (ai_b 141) 13 = .ok (.goto 40, 3) := by decide +kernel
theorem d141_16 : decode (ai_b 141) 16 = .ok (.iload_n 1, 1) := by decide +kernel
theorem d141_17 : decode (ai_b 141) 17 = .ok (.iconst 1, 1) := by decide +kernel
theorem d141_18 : decode (ai_b 141) 18 = .ok (.if_icmp .ne 14, 3) := by decide +kernel
theorem d141_21 : decode (ai_b 141) 21 = .ok (.aload_n 0, 1) := by decide +kernel
theorem d141_22 : decode (ai_b 141) 22 = .ok (.iload_n 2, 1) := by decide +kernel
theorem d141_23 : decode (ai_b 141) 23 = .ok (.iconst 1, 1) := by decide +kernel
theorem d141_24 : decode (ai_b 141) 24 = .ok (.bipush 24, 2) := by decide +kernel
theorem d141_26 : decode (ai_b 141) 26 = .ok (.invokevirtual 113, 3) := by decide +kernel
theorem d141_29 : decode (ai_b 141) 29 = .ok (.goto 24, 3) := by decide +kernel
theorem d141_32 : decode (ai_b 141) 32 = .ok (.iload_n 1, 1) := by decide +kernel
theorem d141_33 : decode (ai_b 141) 33 = .ok (.iconst 2, 1) := by decide +kernel
theorem d141_34 : decode (ai_b 141) 34 = .ok (.if_icmp .ne 18, 3) := by decide +kernel
theorem d141_37 : decode (ai_b 141) 37 = .ok (.aload_n 0, 1) := by decide +kernel
theorem d141_38 : decode (ai_b 141) 38 = .ok (.iload_n 2, 1) := by decide +kernel
theorem d141_39 : decode (ai_b 141) 39 = .ok (.iconst 0, 1) := by decide +kernel
theorem d141_40 : decode (ai_b 141) 40 = .ok (.bipush 100, 2) := by decide +kernel
theorem d141_42 : decode (ai_b 141) 42 = .ok (.invokevirtual 113, 3) := by decide +kernel
theorem d141_45 : decode (ai_b 141) 45 = .ok (.ifCond .eq 7, 3) := by decide +kernel
theorem d141_48 : decode (ai_b 141) 48 = .ok (.iconst 1, 1) := by decide +kernel
theorem d141_49 : decode (ai_b 141) 49 = .ok (.goto 4, 3) := by decide +kernel
theorem d141_52 : decode (ai_b 141) 52 = .ok (.iconst 0, 1) := by decide +kernel
theorem d141_53 : decode (ai_b 141) 53 = .ok (.istore_n 3, 1) := by decide +kernel
theorem d141_54 : decode (ai_b 141) 54 = .ok (.iload_n 3, 1) := by decide +kernel
theorem d141_55 : decode (ai_b 141) 55 = .ok (.ifCond .ne 10, 3) := by decide +kernel
theorem d141_58 : decode (ai_b 141) 58 = .ok (.aload_n 0, 1) := by decide +kernel
theorem d141_59 : decode (ai_b 141) 59 = .ok (.bipush (-6), 2) := by decide +kernel
theorem d141_61 : decode (ai_b 141) 61 = .ok (.invokevirtual 121, 3) := by decide +kernel
theorem d141_64 : decode (ai_b 141) 64 = .ok (.ireturn, 1) := by decide +kernel
theorem d141_65 : decode (ai_b 141) 65 = .ok (.iload_n 1, 1) := by decide +kernel
theorem d141_66 : decode (ai_b 141) 66 = .ok (.ifCond .ne 8, 3) := by decide +kernel
theorem d141_69 : decode (ai_b 141) 69 = .ok (.aload_n 0, 1) := by decide +kernel
theorem d141_70 : decode (ai_b 141) 70 = .ok (.iload_n 2, 1) := by decide +kernel
theorem d141_71 : decode (ai_b 141) 71 = .ok (.putfield 77, 3) := by decide +kernel
theorem d141_74 : decode (ai_b 141) 74 = .ok (.iload_n 1, 1) := by decide +kernel
theorem d141_75 : decode (ai_b 141) 75 = .ok (.iconst 1, 1) := by decide +kernel
theorem d141_76 : decode (ai_b 141) 76 = .ok (.if_icmp .ne 8, 3) := by decide +kernel
theorem d141_79 : decode (ai_b 141) 79 = .ok (.aload_n 0, 1) := by decide +kernel
theorem d141_80 : decode (ai_b 141) 80 = .ok (.iload_n 2, 1) := by decide +kernel
theorem d141_81 : decode (ai_b 141) 81 = .ok (.putfield 80, 3) := by decide +kernel
theorem d141_84 : decode (ai_b 141) 84 = .ok (.iload_n 1, 1) := by decide +kernel
theorem d141_85 : decode (ai_b 141) 85 = .ok (.iconst 2, 1) := by decide +kernel
theorem d141_86 : decode (ai_b 141) 86 = .ok (.if_icmp .ne 8, 3) := by decide +kernel
theorem d141_89 : decode (ai_b 141) 89 = .ok (.aload_n 0, 1) := by decide +kernel
theorem d141_90 : decode (ai_b 141) 90 = .ok (.iload_n 2, 1) := by decide +kernel
theorem d141_91 : decode (ai_b 141) 91 = .ok (.putfield 83, 3) := by decide +kernel
theorem d141_94 : decode (ai_b 141) 94 = .ok (.iconst 1, 1) := by decide +kernel
theorem d141_95 : decode (ai_b 141) 95 = .ok (.ireturn, 1) := by decide +kernel
theorem d142_0 : decode (ai_b 142) 0 = .ok (.aload_n 0, 1) := by decide +kernel
theorem d142_1 : decode (ai_b 142) 1 = .ok (.getfield 61, 3) := by decide +kernel
theorem d142_4 : decode (ai_b 142) 4 = .ok (.sipush 200, 3) := by decide +kernel
theorem d142_7 : decode (ai_b 142) 7 = .ok (.iload_n 1, 1) := by decide +kernel
theorem d142_8 : decode (ai_b 142) 8 = .ok (.imul, 1) := by decide +kernel
theorem d142_9 : decode (ai_b 142) 9 = .ok (.iload_n 2, 1) := by decide +kernel
theorem d142_10 : decode (ai_b 142) 10 = .ok (.iadd, 1) := by decide +kernel
theorem d142_11 : decode (ai_b 142) 11 = .ok (.iaload, 1) := by decide +kernel
theorem d142_12 : decode (ai_b 142) 12 = .ok (.iconst (-1), 1) := by decide +kernel
theorem d142_13 : decode (ai_b 142) 13 = .ok (.if_icmp .eq 22, 3) := by decide +kernel
theorem d142_16 : decode (ai_b 142) 16 = .ok (.aload_n 0, 1) := by decide +kernel
theorem d142_17 : decode (ai_b 142) 17 = .ok (.getfield 64, 3) := by decide +kernel
theorem d142_20 : decode (ai_b 142) 20 = .ok (.sipush 200, 3) := by decide +kernel
theorem d142_23 : decode (ai_b 142) 23 = .ok (.iload_n 1, 1) := by decide +kernel
theorem d142_24 : decode (ai_b 142) 24 = .ok (.imul, 1) := by decide +kernel
theorem d142_25 : decode (ai_b 142) 25 = .ok (.iload_n 2, 1) := by decide +kernel
theorem d142_26 : decode (ai_b 142) 26 = .ok (.iadd, 1) := by decide +kernel
theorem d142_27 : decode (ai_b 142) 27 = .ok (.iaload, 1) := by decide +kernel
theorem d142_28 : decode (ai_b 142) 28 = .ok (.ifCond .ne 7, 3) := by decide +kernel
theorem d142_31 : decode (ai_b 142) 31 = .ok (.iconst 1, 1) := by decide +kernel
theorem d142_32 : decode (ai_b 142) 32 = .ok (.goto 4, 3) := by decide +kernel
theorem d142_35 : decode (ai_b 142) 35 = .ok (.iconst 0, 1) := by decide +kernel
theorem d142_36 : decode (ai_b 142) 36 = .ok (.ireturn, 1) := by decide +kernel
theorem d143_0 : decode (ai_b 143) 0 = .ok (.iload_n 1, 1) := by decide +kernel
theorem d143_1 : decode (ai_b 143) 1 = .ok (.iconst 5, 1) := by decide +kernel
theorem d143_2 : decode (ai_b 143) 2 = .ok (.irem, 1) := by decide +kernel
theorem d143_3 : decode (ai_b 143) 3 = .ok (.aload_n 0, 1) := by decide +kernel
theorem d143_4 : decode (ai_b 143) 4 = .ok (.getfield 30, 3) := by decide +kernel
theorem d143_7 : decode (ai_b 143) 7 = .ok (.if_icmp .ge 17, 3) := by decide +kernel
theorem d143_10 : decode (ai_b 143) 10 = .ok (.iload_n 1, 1) := by decide +kernel
theorem d143_11 : decode (ai_b 143) 11 = .ok (.iconst 5, 1) := by decide +kernel
theorem d143_12 : decode (ai_b 143) 12 = .ok (.idiv, 1) := by decide +kernel
theorem d143_13 : decode (ai_b 143) 13 = .ok (.aload_n 0, 1) := by decide +kernel
theorem d143_14 : decode (ai_b 143) 14 = .ok (.getfield 26, 3) := by decide +kernel
theorem d143_17 : decode (ai_b 143) 17 = .ok (.if_icmp .ge 7, 3) := by decide +kernel
theorem d143_20 : decode (ai_b 143) 20 = .ok (.iconst 1, 1) := by decide +kernel
theorem d143_21 : decode (ai_b 143) 21 = .ok (.goto 4, 3) := by decide +kernel
theorem d143_24 : decode (ai_b 143) 24 = .ok (.iconst 0, 1) := by decide +kernel
theorem d143_25 : decode (ai_b 143) 25 = .ok (.ireturn, 1) := by decide +kernel
theorem d144_0 : decode (ai_b 144) 0 = .ok (.iconst 0, 1) := by decide +kernel
theorem d144_1 : decode (ai_b 144) 1 = .ok (.istore_n 3, 1) := by decide +kernel
theorem d144_2 : decode (ai_b 144) 2 = .ok (.iconst 0, 1) := by decide +kernel
theorem d144_3 : decode (ai_b 144) 3 = .ok (.istore 4, 2) := by decide +kernel
theorem d144_5 : decode (ai_b 144) 5 = .ok (.iload 4, 2) := by decide +kernel
theorem d144_7 : decode (ai_b 144) 7 = .ok (.sipush 200, 3) := by decide +kernel
theorem d144_10 : decode (ai_b 144) 10 = .ok (.if_icmp .ge 75, 3) := by decide +kernel
theorem d144_13 : decode (ai_b 144) 13 = .ok (.aload_n 0, 1) := by decide +kernel
theorem d144_14 : decode (ai_b 144) 14 = .ok (.iload 4, 2) := by decide +kernel
theorem d144_16 : decode (ai_b 144) 16 = .ok (.invokevirtual 162, 3) := by decide +kernel
theorem d144_19 : decode (ai_b 144) 19 = .ok (.ifCond .eq 60, 3) := by decide +kernel
theorem d144_22 : decode (ai_b 144) 22 = .ok (.aload_n 0, 1) := by decide +kernel
theorem d144_23 : decode (ai_b 144) 23 = .ok (.iload_n 2, 1) := by decide +kernel
theorem d144_24 : decode (ai_b 144) 24 = .ok (.iload 4, 2) := by decide +kernel
theorem d144_26 : decode (ai_b 144) 26 = .ok (.invokevirtual 165, 3) := by decide +kernel
theorem d144_29 : decode (ai_b 144) 29 = .ok (.ifCond .eq 50, 3) := by decide +kernel
theorem d144_32 : decode (ai_b 144) 32 = .ok (.aload_n 0, 1) := by decide +kernel
theorem d144_33 : decode (ai_b 144) 33 = .ok (.iload_n 1, 1) := by decide +kernel
theorem d144_34 : decode (ai_b 144) 34 = .ok (.iload 4, 2) := by decide +kernel
theorem d144_36 : decode (ai_b 144) 36 = .ok (.invokevirtual 165, 3) := by decide +kernel
theorem d144_39 : decode (ai_b 144) 39 = .ok (.ifCond .ne 6, 3) := by decide +kernel
theorem d144_42 : decode (ai_b 144) 42 = .ok (.goto 37, 3) := by decide +kernel
theorem d144_45 : decode (ai_b 144) 45 = .ok (.aload_n 0, 1) := by decide +kernel
theorem d144_46 : decode (ai_b 144) 46 = .ok (.getfield 61, 3) := by decide +kernel
theorem d144_49 : decode (ai_b 144) 49 = .ok (.sipush 200, 3) := by decide +kernel
theorem d144_52 : decode (ai_b 144) 52 = .ok (.iload_n 2, 1) := by decide +kernel
theorem d144_53 : decode (ai_b 144) 53 = .ok (.imul, 1) := by decide +kernel
theorem d144_54 : decode (ai_b 144) 54 = .ok (.iload 4, 2) := by decide +kernel
theorem d144_56 : decode (ai_b 144) 56 = .ok (.iadd, 1) := by decide +kernel
theorem d144_57 : decode (ai_b 144) 57 = .ok (.iaload, 1) := by decide +kernel
theorem d144_58 : decode (ai_b 144) 58 = .ok (.aload_n 0, 1) := by decide +kernel
theorem d144_59 : decode (ai_b 144) 59 = .ok (.getfield 61, 3) := by decide +kernel
theorem d144_62 : decode (ai_b 144) 62 = .ok (.sipush 200, 3) := by decide +kernel
theorem d144_65 : decode (ai_b 144) 65 = .ok (.iload_n 1, 1) := by decide +kernel
theorem d144_66 : decode (ai_b 144) 66 = .ok (.imul, 1) := by decide +kernel
theorem d144_67 : decode (ai_b 144) 67 = .ok (.iload 4, 2) := by decide +kernel
theorem d144_69 : decode (ai_b 144) 69 = .ok (.iadd, 1) := by decide +kernel
theorem d144_70 : decode (ai_b 144) 70 = .ok (.iaload, 1) := by decide +kernel
theorem d144_71 : decode (ai_b 144) 71 = .ok (.if_icmp .eq 5, 3) := by decide +kernel
theorem d144_74 : decode (ai_b 144) 74 = .ok (.iconst 0, 1) := by decide +kernel
theorem d144_75 : decode (ai_b 144) 75 = .ok (.ireturn, 1) := by decide +kernel
theorem d144_76 : decode (ai_b 144) 76 = .ok (.iinc 3 1, 3) := by decide +kernel
theorem d144_79 : decode (ai_b 144) 79 = .ok (.iinc 4 1, 3) := by decide +kernel
theorem d144_82 : decode (ai_b 144) 82 = .ok (.goto (-77), 3) := by decide +kernel
theorem d144_85 : decode (ai_b 144) 85 = .ok (.iload_n 3, 1) := by decide +kernel
theorem d144_86 : decode (ai_b 144) 86 = .ok (.bipush 6, 2) := by decide +kernel
theorem d144_88 : decode (ai_b 144) 88 = .ok (.if_icmp .lt 7, 3) := by decide +kernel
theorem d144_91 : decode (ai_b 144) 91 = .ok (.iconst 1, 1) := by decide +kernel
theorem d144_92 : decode (ai_b 144) 92 = .ok (.goto 4, 3) := by decide +kernel
theorem d144_95 : decode (ai_b 144) 95 = .ok (.iconst 0, 1) := by decide +kernel
theorem d144_96 : decode (ai_b 144) 96 = .ok (.ireturn, 1) := by decide +kernel
theorem d145_0 : decode (ai_b 145) 0 = .ok (.aload_n 0, 1) := by decide +kernel
theorem d145_1 : decode (ai_b 145) 1 = .ok (.getfield 73, 3) := by decide +kernel
theorem d145_4 : decode (ai_b 145) 4 = .ok (.ifCond .ne 4, 3) := by decide +kernel
theorem d145_7 : decode (ai_b 145) 7 = .ok (.return_, 1) := by decide +kernel
theorem d145_8 : decode (ai_b 145) 8 = .ok (.aload_n 0, 1) := by decide +kernel
theorem d145_9 : decode (ai_b 145) 9 = .ok (.iconst 0, 1) := by decide +kernel
theorem d145_10 : decode (ai_b 145) 10 = .ok (.putfield 73, 3) := by decide +kernel
theorem d145_13 : decode (ai_b 145) 13 = .ok (.iconst 0, 1) := by decide +kernel
theorem d145_14 : decode (ai_b 145) 14 = .ok (.istore_n 1, 1) := by decide +kernel
theorem d145_15 : decode (ai_b 145) 15 = .ok (.iload_n 1, 1) := by decide +kernel
theorem d145_16 : decode (ai_b 145) 16 = .ok (.aload_n 0, 1) := by decide +kernel
theorem d145_17 : decode (ai_b 145) 17 = .ok (.getfield 33, 3) := by decide +kernel
theorem d145_20 : decode (ai_b 145) 20 = .ok (.if_icmp .ge 64, 3) := by decide +kernel
theorem d145_23 : decode (ai_b 145) 23 = .ok (.aload_n 0, 1) := by decide +kernel
theorem d145_24 : decode (ai_b 145) 24 = .ok (.getfield 70, 3) := by decide +kernel
theorem d145_27 : decode (ai_b 145) 27 = .ok (.iload_n 1, 1) := by decide +kernel
theorem d145_28 : decode (ai_b 145) 28 = .ok (.iconst (-1), 1) := by decide +kernel
theorem d145_29 : decode (ai_b 145) 29 = .ok (.iastore, 1) := by decide +kernel
theorem d145_30 : decode (ai_b 145) 30 = .ok (.iload_n 1, 1) := by decide +kernel
theorem d145_31 : decode (ai_b 145) 31 = .ok (.iconst 1, 1) := by decide +kernel
theorem d145_32 : decode (ai_b 145) 32 = .ok (.isub, 1) := by decide +kernel
theorem d145_33 : decode (ai_b 145) 33 = .ok (.istore_n 2, 1) := by decide +kernel
theorem d145_34 : decode (ai_b 145) 34 = .ok (.iload_n 2, 1) := by decide +kernel
theorem d145_35 : decode (ai_b 145) 35 = .ok (.ifCond .lt 43, 3) := by decide +kernel
theorem d145_38 : decode (ai_b 145) 38 = .ok (.aload_n 0, 1) := by decide +kernel
theorem d145_39 : decode (ai_b 145) 39 = .ok (.getfield 51, 3) := by decide +kernel
theorem d145_42 : decode (ai_b 145) 42 = .ok (.iload_n 1, 1) := by decide +kernel
theorem d145_43 : decode (ai_b 145) 43 = .ok (.baload, 1) := by decide +kernel
theorem d145_44 : decode (ai_b 145) 44 = .ok (.ifCond .ne 34, 3) := by decide +kernel
theorem d145_47 : decode (ai_b 145) 47 = .ok (.aload_n 0, 1) := by decide +kernel
theorem d145_48 : decode (ai_b 145) 48 = .ok (.getfield 51, 3) := by decide +kernel
theorem d145_51 : decode (ai_b 145) 51 = .ok (.iload_n 2, 1) := by decide +kernel
theorem d145_52 : decode (ai_b 145) 52 = .ok (.baload, 1) := by decide +kernel
theorem d145_53 : decode (ai_b 145) 53 = .ok (.ifCond .ne 19, 3) := by decide +kernel
theorem d145_56 : decode (ai_b 145) 56 = .ok (.aload_n 0, 1) := by decide +kernel
theorem d145_57 : decode (ai_b 145) 57 = .ok (.iload_n 1, 1) := by decide +kernel
theorem d145_58 : decode (ai_b 145) 58 = .ok (.iload_n 2, 1) := by decide +kernel
theorem d145_59 : decode (ai_b 145) 59 = .ok (.invokevirtual 168, 3) := by decide +kernel
theorem d145_62 : decode (ai_b 145) 62 = .ok (.ifCond .eq 10, 3) := by decide +kernel
theorem d145_65 : decode (ai_b 145) 65 = .ok (.aload_n 0, 1) := by decide +kernel
theorem d145_66 : decode (ai_b 145) 66 = .ok (.getfield 70, 3) := by decide +kernel
theorem d145_69 : decode (ai_b 145) 69 = .ok (.iload_n 1, 1) := by decide +kernel
theorem d145_70 : decode (ai_b 145) 70 = .ok (.iload_n 2, 1) := by decide +kernel
theorem d145_71 : decode (ai_b 145) 71 = .ok (.iastore, 1) := by decide +kernel
theorem d145_72 : decode (ai_b 145) 72 = .ok (.iinc 2 (-1), 3) := by decide +kernel
theorem d145_75 : decode (ai_b 145) 75 = .ok (.goto (-41), 3) := by decide +kernel
theorem d145_78 : decode (ai_b 145) 78 = .ok (.iinc 1 1, 3) := by decide +kernel
theorem d145_81 : decode (ai_b 145) 81 = .ok (.goto (-66), 3) := by decide +kernel
theorem d145_84 : decode (ai_b 145) 84 = .ok (.iconst 0, 1) := by decide +kernel
theorem d145_85 : decode (ai_b 145) 85 = .ok (.istore_n 1, 1) := by decide +kernel
theorem d145_86 : decode (ai_b 145) 86 = .ok (.iload_n 1, 1) := by decide +kernel
theorem d145_87 : decode (ai_b 145) 87 = .ok (.aload_n 0, 1) := by decide +kernel
theorem d145_88 : decode (ai_b 145) 88 = .ok (.getfield 33, 3) := by decide +kernel
theorem d145_91 : decode (ai_b 145) 91 = .ok (.if_icmp .ge 91, 3) := by decide +kernel
theorem d145_94 : decode (ai_b 145) 94 = .ok (.iconst 0, 1) := by decide +kernel
theorem d145_95 : decode (ai_b 145) 95 = .ok (.istore_n 2, 1) := by decide +kernel
theorem d145_96 : decode (ai_b 145) 96 = .ok (.iload_n 2, 1) := by decide +kernel
theorem d145_97 : decode (ai_b 145) 97 = .ok (.sipush 200, 3) := by decide +kernel
theorem d145_100 : decode (ai_b 145) 100 = .ok (.if_icmp .ge 76, 3) := by decide +kernel
theorem d145_103 : decode (ai_b 145) 103 = .ok (.aload_n 0, 1) := by decide +kernel
theorem d145_104 : decode (ai_b 145) 104 = .ok (.getfield 67, 3) := by decide +kernel
theorem d145_107 : decode (ai_b 145) 107 = .ok (.sipush 200, 3) := by decide +kernel
theorem d145_110 : decode (ai_b 145) 110 = .ok (.iload_n 1, 1) := by decide +kernel
theorem d145_111 : decode (ai_b 145) 111 = .ok (.imul, 1) := by decide +kernel
theorem d145_112 : decode (ai_b 145) 112 = .ok (.iload_n 2, 1) := by decide +kernel
theorem d145_113 : decode (ai_b 145) 113 = .ok (.iadd, 1) := by decide +kernel
theorem d145_114 : decode (ai_b 145) 114 = .ok (.aload_n 0, 1) := by decide +kernel
theorem d145_115 : decode (ai_b 145) 115 = .ok (.iload_n 2, 1) := by decide +kernel
theorem d145_116 : decode (ai_b 145) 116 = .ok (.invokevirtual 162, 3) := by decide +kernel
theorem d145_119 : decode (ai_b 145) 119 = .ok (.ifCond .eq 49, 3) := by decide +kernel
theorem d145_122 : decode (ai_b 145) 122 = .ok (.aload_n 0, 1) := by decide +kernel
theorem d145_123 : decode (ai_b 145) 123 = .ok (.getfield 51, 3) := by decide +kernel
theorem d145_126 : decode (ai_b 145) 126 = .ok (.iload_n 1, 1) := by decide +kernel
theorem d145_127 : decode (ai_b 145) 127 = .ok (.baload, 1) := by decide +kernel
theorem d145_128 : decode (ai_b 145) 128 = .ok (.ifCond .ne 40, 3) := by decide +kernel
theorem d145_131 : decode (ai_b 145) 131 = .ok (.aload_n 0, 1) := by decide +kernel
theorem d145_132 : decode (ai_b 145) 132 = .ok (.iload_n 1, 1) := by decide +kernel
theorem d145_133 : decode (ai_b 145) 133 = .ok (.iload_n 2, 1) := by decide +kernel
theorem d145_134 : decode (ai_b 145) 134 = .ok (.invokevirtual 165, 3) := by decide +kernel
theorem d145_137 : decode (ai_b 145) 137 = .ok (.ifCond .eq 31, 3) := by decide +kernel
theorem d145_140 : decode (ai_b 145) 140 = .ok (.aload_n 0, 1) := by decide +kernel
theorem d145_141 : decode (ai_b 145) 141 = .ok (.getfield 70, 3) := by decide +kernel
theorem d145_144 : decode (ai_b 145) 144 = .ok (.iload_n 1, 1) := by decide +kernel
theorem d145_145 : decode (ai_b 145) 145 = .ok (.iaload, 1) := by decide +kernel
theorem d145_146 : decode (ai_b 145) 146 = .ok (.iconst (-1), 1) := by decide +kernel
theorem d145_147 : decode (ai_b 145) 147 = .ok (.if_icmp .eq 17, 3) := by decide +kernel
theorem d145_150 : decode (ai_b 145) 150 = .ok (.aload_n 0, 1) := by decide +kernel
theorem d145_151 : decode (ai_b 145) 151 = .ok (.aload_n 0, 1) := by decide +kernel
theorem d145_152 : decode (ai_b 145) 152 = .ok (.getfield 70, 3) := by decide +kernel
theorem d145_155 : decode (ai_b 145) 155 = .ok (.iload_n 1, 1) := by decide +kernel
theorem d145_156 : decode (ai_b 145) 156 = .ok (.iaload, 1) := by decide +kernel
theorem d145_157 : decode (ai_b 145) 157 = .ok (.iload_n 2, 1) := by decide +kernel
theorem d145_158 : decode (ai_b 145) 158 = .ok (.invokevirtual 165, 3) := by decide +kernel
theorem d145_161 : decode (ai_b 145) 161 = .ok (.ifCond .ne 7, 3) := by decide +kernel
theorem d145_164 : decode (ai_b 145) 164 = .ok (.iconst 1, 1) := by decide +kernel
theorem d145_165 : decode (ai_b 145) 165 = .ok (.goto 4, 3) := by decide +kernel
theorem d145_168 : decode (ai_b 145) 168 = .ok (.iconst 0, 1) := by decide +kernel
theorem d145_169 : decode (ai_b 145) 169 = .ok (.bastore, 1) := by decide +kernel
theorem d145_170 : decode (ai_b 145) 170 = .ok (.iinc 2 1, 3) := by decide +kernel
theorem d145_173 : decode (ai_b 145) 173 = .ok (.goto (-77), 3) := by decide +kernel
theorem d145_176 : decode (ai_b 145) 176 = .ok (.iinc 1 1, 3) := by decide +kernel
theorem d145_179 : decode (ai_b 145) 179 = .ok (.goto (-93), 3) := by decide +kernel
theorem d145_182 : decode (ai_b 145) 182 = .ok (.return_, 1) := by decide +kernel
theorem d146_0 : decode (ai_b 146) 0 = .ok (.iconst 0, 1) := by decide +kernel
theorem d146_1 : decode (ai_b 146) 1 = .ok (.istore_n 2, 1) := by decide +kernel
theorem d146_2 : decode (ai_b 146) 2 = .ok (.iconst 0, 1) := by decide +kernel
theorem d146_3 : decode (ai_b 146) 3 = .ok (.istore_n 3, 1) := by decide +kernel
theorem d146_4 : decode (ai_b 146) 4 = .ok (.iload_n 3, 1) := by decide +kernel
theorem d146_5 : decode (ai_b 146) 5 = .ok (.aload_n 0, 1) := by decide +kernel
theorem d146_6 : decode (ai_b 146) 6 = .ok (.getfield 33, 3) := by decide +kernel
theorem d146_9 : decode (ai_b 146) 9 = .ok (.if_icmp .ge 32, 3) := by decide +kernel
theorem d146_12 : decode (ai_b 146) 12 = .ok (.iload_n 2, 1) := by decide +kernel
theorem d146_13 : decode (ai_b 146) 13 = .ok (.aload_n 0, 1) := by decide +kernel
theorem d146_14 : decode (ai_b 146) 14 = .ok (.getfield 67, 3) := by decide +kernel
theorem d146_17 : decode (ai_b 146) 17 = .ok (.sipush 200, 3) := by decide +kernel
theorem d146_20 : decode (ai_b 146) 20 = .ok (.iload_n 3, 1) := by decide +kernel
theorem d146_21 : decode (ai_b 146) 21 = .ok (.imul, 1) := by decide +kernel
theorem d146_22 : decode (ai_b 146) 22 = .ok (.iload_n 1, 1) := by decide +kernel
theorem d146_23 : decode (ai_b 146) 23 = .ok (.iadd, 1) := by decide +kernel
theorem d146_24 : decode (ai_b 146) 24 = .ok (.baload, 1) := by decide +kernel
theorem d146_25 : decode (ai_b 146) 25 = .ok (.ifCond .eq 7, 3) := by decide +kernel
theorem d146_28 : decode (ai_b 146) 28 = .ok (.iconst 1, 1) := by decide +kernel
theorem d146_29 : decode (ai_b 146) 29 = .ok (.goto 4, 3) := by decide +kernel
theorem d146_32 : decode (ai_b 146) 32 = .ok (.iconst 0, 1) := by decide +kernel
theorem d146_33 : decode (ai_b 146) 33 = .ok (.iadd, 1) := by decide +kernel
theorem d146_34 : decode (ai_b 146) 34 = .ok (.istore_n 2, 1) := by decide +kernel
theorem d146_35 : decode (ai_b 146) 35 = .ok (.iinc 3 1, 3) := by decide +kernel
theorem d146_38 : decode (ai_b 146) 38 = .ok (.goto (-34), 3) := by decide +kernel
theorem d146_41 : decode (ai_b 146) 41 = .ok (.iload_n 2, 1) := by decide +kernel
theorem d146_42 : decode (ai_b 146) 42 = .ok (.ireturn, 1) := by decide +kernel
theorem d147_0 : decode (ai_b 147) 0 = .ok (.aload_n 0, 1) := by decide +kernel
theorem d147_1 : decode (ai_b 147) 1 = .ok (.iload_n 1, 1) := by decide +kernel
theorem d147_2 : decode (ai_b 147) 2 = .ok (.invokevirtual 117, 3) := by decide +kernel
theorem d147_5 : decode (ai_b 147) 5 = .ok (.ifCond .ne 9, 3) := by decide +kernel
theorem d147_8 : decode (ai_b 147) 8 = .ok (.aload_n 0, 1) := by decide +kernel
theorem d147_9 : decode (ai_b 147) 9 = .ok (.iconst (-1), 1) := by decide +kernel
theorem d147_10 : decode (ai_b 147) 10 = .ok (.invokevirtual 121, 3) := by decide +kernel
theorem d147_13 : decode (ai_b 147) 13 = .ok (.ireturn, 1) := by decide +kernel
theorem d147_14 : decode (ai_b 147) 14 = .ok (.aload_n 0, 1) := by decide +kernel
theorem d147_15 : decode (ai_b 147) 15 = .ok (.getfield 13, 3) := by decide +kernel
theorem d147_18 : decode (ai_b 147) 18 = .ok (.iload_n 1, 1) := by decide +kernel
theorem d147_19 : decode (ai_b 147) 19 = .ok (.iaload, 1) := by decide +kernel
theorem d147_20 : decode (ai_b 147) 20 = .ok (.bipush 100, 2) := by decide +kernel
theorem d147_22 : decode (ai_b 147) 22 = .ok (.if_icmp .lt 10, 3) := by decide +kernel
theorem d147_25 : decode (ai_b 147) 25 = .ok (.aload_n 0, 1) := by decide +kernel
theorem d147_26 : decode (ai_b 147) 26 = .ok (.bipush (-2), 2) := by decide +kernel
theorem d147_28 : decode (ai_b 147) 28 = .ok (.invokevirtual 121, 3) := by decide +kernel
theorem d147_31 : decode (ai_b 147) 31 = .ok (.ireturn, 1) := by decide +kernel
theorem d147_32 : decode (ai_b 147) 32 = .ok (.aload_n 0, 1) := by decide +kernel
theorem d147_33 : decode (ai_b 147) 33 = .ok (.getfield 13, 3) := by decide +kernel
theorem d147_36 : decode (ai_b 147) 36 = .ok (.iload_n 1, 1) := by decide +kernel
theorem d147_37 : decode (ai_b 147) 37 = .ok (.iaload, 1) := by decide +kernel
theorem d147_38 : decode (ai_b 147) 38 = .ok (.ifCond .ge 10, 3) := by decide +kernel
theorem d147_41 : decode (ai_b 147) 41 = .ok (.aload_n 0, 1) := by decide +kernel
theorem d147_42 : decode (ai_b 147) 42 = .ok (.bipush (-3), 2) := by decide +kernel
theorem d147_44 : decode (ai_b 147) 44 = .ok (.invokevirtual 121, 3) := by decide +kernel
theorem d147_47 : decode (ai_b 147) 47 = .ok (.ireturn, 1) := by decide +kernel
theorem d147_48 : decode (ai_b 147) 48 = .ok (.aload_n 0, 1) := by decide +kernel
theorem d147_49 : decode (ai_b 147) 49 = .ok (.invokevirtual 171, 3) := by decide +kernel
theorem d147_52 : decode (ai_b 147) 52 = .ok (.iconst 0, 1) := by decide +kernel
theorem d147_53 : decode (ai_b 147) 53 = .ok (.istore_n 2, 1) := by decide +kernel
theorem d147_54 : decode (ai_b 147) 54 = .ok (.iconst 0, 1) := by decide +kernel
theorem d147_55 : decode (ai_b 147) 55 = .ok (.istore_n 3, 1) := by decide +kernel
theorem d147_56 : decode (ai_b 147) 56 = .ok (.iload_n 3, 1) := by decide +kernel
theorem d147_57 : decode (ai_b 147) 57 = .ok (.sipush 200, 3) := by decide +kernel
theorem d147_60 : decode (ai_b 147) 60 = .ok (.if_icmp .ge 37, 3) := by decide +kernel
theorem d147_63 : decode (ai_b 147) 63 = .ok (.iload_n 2, 1) := by decide +kernel
theorem d147_64 : decode (ai_b 147) 64 = .ok (.aload_n 0, 1) := by decide +kernel
theorem d147_65 : decode (ai_b 147) 65 = .ok (.getfield 67, 3) := by decide +kernel
theorem d147_68 : decode (ai_b 147) 68 = .ok (.sipush 200, 3) := by decide +kernel
theorem d147_71 : decode (ai_b 147) 71 = .ok (.aload_n 0, 1) := by decide +kernel
theorem d147_72 : decode (ai_b 147) 72 = .ok (.getfield 13, 3) := by decide +kernel
theorem d147_75 : decode (ai_b 147) 75 = .ok (.iload_n 1, 1) := by decide +kernel
theorem d147_76 : decode (ai_b 147) 76 = .ok (.iaload, 1) := by decide +kernel
theorem d147_77 : decode (ai_b 147) 77 = .ok (.imul, 1) := by decide +kernel
theorem d147_78 : decode (ai_b 147) 78 = .ok (.iload_n 3, 1) := by decide +kernel
theorem d147_79 : decode (ai_b 147) 79 = .ok (.iadd, 1) := by decide +kernel
theorem d147_80 : decode (ai_b 147) 80 = .ok (.baload, 1) := by decide +kernel
theorem d147_81 : decode (ai_b 147) 81 = .ok (.ifCond .eq 7, 3) := by decide +kernel
theorem d147_84 : decode (ai_b 147) 84 = .ok (.iconst 1, 1) := by decide +kernel
theorem d147_85 : decode (ai_b 147) 85 = .ok (.goto 4, 3) := by decide +kernel
theorem d147_88 : decode (ai_b 147) 88 = .ok (.iconst 0, 1) := by decide +kernel
theorem d147_89 : decode (ai_b 147) 89 = .ok (.iadd, 1) := by decide +kernel
theorem d147_90 : decode (ai_b 147) 90 = .ok (.istore_n 2, 1) := by decide +kernel
theorem d147_91 : decode (ai_b 147) 91 = .ok (.iinc 3 1, 3) := by decide +kernel
theorem d147_94 : decode (ai_b 147) 94 = .ok (.goto (-38), 3) := by decide +kernel
theorem d147_97 : decode (ai_b 147) 97 = .ok (.iload_n 2, 1) := by decide +kernel
theorem d147_98 : decode (ai_b 147) 98 = .ok (.ireturn, 1) := by decide +kernel
theorem d148_0 : decode (ai_b 148) 0 = .ok (.aload_n 0, 1) := by decide +kernel
theorem d148_1 : decode (ai_b 148) 1 = .ok (.getfield 95, 3) := by decide +kernel
theorem d148_4 : decode (ai_b 148) 4 = .ok (.iload_n 1, 1) := by decide +kernel
theorem d148_5 : decode (ai_b 148) 5 = .ok (.iconst 0, 1) := by decide +kernel
theorem d148_6 : decode (ai_b 148) 6 = .ok (.iastore, 1) := by decide +kernel
theorem d148_7 : decode (ai_b 148) 7 = .ok (.iload_n 2, 1) := by decide +kernel
theorem d148_8 : decode (ai_b 148) 8 = .ok (.istore_n 3, 1) := by decide +kernel
theorem d148_9 : decode (ai_b 148) 9 = .ok (.iload_n 3, 1) := by decide +kernel
theorem d148_10 : decode (ai_b 148) 10 = .ok (.ifCond .le 42, 3) := by decide +kernel
theorem d148_13 : decode (ai_b 148) 13 = .ok (.aload_n 0, 1) := by decide +kernel
theorem d148_14 : decode (ai_b 148) 14 = .ok (.getfield 92, 3) := by decide +kernel
theorem d148_17 : decode (ai_b 148) 17 = .ok (.sipush 1700, 3) := by decide +kernel
theorem d148_20 : decode (ai_b 148) 20 = .ok (.iload_n 1, 1) := by decide +kernel
theorem d148_21 : decode (ai_b 148) 21 = .ok (.imul, 1) := by decide +kernel
theorem d148_22 : decode (ai_b 148) 22 = .ok (.aload_n 0, 1) := by decide +kernel
theorem d148_23 : decode (ai_b 148) 23 = .ok (.getfield 95, 3) := by decide +kernel
theorem d148_26 : decode (ai_b 148) 26 = .ok (.iload_n 1, 1) := by decide +kernel
theorem d148_27 : decode (ai_b 148) 27 = .ok (.iaload, 1) := by decide +kernel
theorem d148_28 : decode (ai_b 148) 28 = .ok (.iadd, 1) := by decide +kernel
theorem d148_29 : decode (ai_b 148) 29 = .ok (.iload_n 3, 1) := by decide +kernel
theorem d148_30 : decode (ai_b 148) 30 = .ok (.ldc 174, 2) := by decide +kernel
theorem d148_32 : decode (ai_b 148) 32 = .ok (.iand, 1) := by decide +kernel
theorem d148_33 : decode (ai_b 148) 33 = .ok (.iastore, 1) := by decide +kernel
theorem d148_34 : decode (ai_b 148) 34 = .ok (.aload_n 0, 1) := by decide +kernel
theorem d148_35 : decode (ai_b 148) 35 = .ok (.getfield 95, 3) := by decide +kernel
theorem d148_38 : decode (ai_b 148) 38 = .ok (.iload_n 1, 1) := by decide +kernel
theorem d148_39 : decode (ai_b 148) 39 = .ok (.dup2, 1) := by decide +kernel
theorem d148_40 : decode (ai_b 148) 40 = .ok (.iaload, 1) := by decide +kernel
theorem d148_41 : decode (ai_b 148) 41 = .ok (.iconst 1, 1) := by decide +kernel
theorem d148_42 : decode (ai_b 148) 42 = .ok (.iadd, 1) := by decide +kernel
theorem d148_43 : decode (ai_b 148) 43 = .ok (.iastore, 1) := by decide +kernel
theorem d148_44 : decode (ai_b 148) 44 = .ok (.iload_n 3, 1) := by decide +kernel
theorem d148_45 : decode (ai_b 148) 45 = .ok (.bipush 16, 2) := by decide +kernel
theorem d148_47 : decode (ai_b 148) 47 = .ok (.ishr, 1) := by decide +kernel
theorem d148_48 : decode (ai_b 148) 48 = .ok (.istore_n 3, 1) := by decide +kernel
theorem d148_49 : decode (ai_b 148) 49 = .ok (.goto (-40), 3) := by decide +kernel
theorem d148_52 : decode (ai_b 148) 52 = .ok (.return_, 1) := by decide +kernel
theorem d149_0 : decode (ai_b 149) 0 = .ok (.aload_n 0, 1) := by decide +kernel
theorem d149_1 : decode (ai_b 149) 1 = .ok (.getfield 95, 3) := by decide +kernel
theorem d149_4 : decode (ai_b 149) 4 = .ok (.iload_n 2, 1) := by decide +kernel
theorem d149_5 : decode (ai_b 149) 5 = .ok (.aload_n 0, 1) := by decide +kernel
theorem d149_6 : decode (ai_b 149) 6 = .ok (.getfield 95, 3) := by decide +kernel
theorem d149_9 : decode (ai_b 149) 9 = .ok (.iload_n 1, 1) := by decide +kernel
theorem d149_10 : decode (ai_b 149) 10 = .ok (.iaload, 1) := by decide +kernel
theorem d149_11 : decode (ai_b 149) 11 = .ok (.iastore, 1) := by decide +kernel
theorem d149_12 : decode (ai_b 149) 12 = .ok (.iconst 0, 1) := by decide +kernel
theorem d149_13 : decode (ai_b 149) 13 = .ok (.istore_n 3, 1) := by decide +kernel
theorem d149_14 : decode (ai_b 149) 14 = .ok (.iload_n 3, 1) := by decide +kernel
theorem d149_15 : decode (ai_b 149) 15 = .ok (.aload_n 0, 1) := by decide +kernel
theorem d149_16 : decode (ai_b 149) 16 = .ok (.getfield 95, 3) := by decide +kernel
theorem d149_19 : decode (ai_b 149) 19 = .ok (.iload_n 1, 1) := by decide +kernel
theorem d149_20 : decode (ai_b 149) 20 = .ok (.iaload, 1) := by decide +kernel
theorem d149_21 : decode (ai_b 149) 21 = .ok (.if_icmp .ge 33, 3) := by decide +kernel
theorem d149_24 : decode (ai_b 149) 24 = .ok (.aload_n 0, 1) := by decide +kernel
theorem d149_25 : decode (ai_b 149) 25 = .ok (.getfield 92, 3) := by decide +kernel
theorem d149_28 : decode (ai_b 149) 28 = .ok (.sipush 1700, 3) := by decide +kernel
theorem d149_31 : decode (ai_b 149) 31 = .ok (.iload_n 2, 1) := by decide +kernel
theorem d149_32 : decode (ai_b 149) 32 = .ok (.imul, 1) := by decide +kernel
theorem d149_33 : decode (ai_b 149) 33 = .ok (.iload_n 3, 1) := by decide +kernel
theorem d149_34 : decode (ai_b 149) 34 = .ok (.iadd, 1) := by decide +kernel
theorem d149_35 : decode (ai_b 149) 35 = .ok (.aload_n 0, 1) := by decide +kernel
theorem d149_36 : decode (ai_b 149) 36 = .ok (.getfield 92, 3) := by decide +kernel
theorem d149_39 : decode (ai_b 149) 39 = .ok (.sipush 1700, 3) := by decide +kernel
theorem d149_42 : decode (ai_b 149) 42 = .ok (.iload_n 1, 1) := by decide +kernel
theorem d149_43 : decode (ai_b 149) 43 = .ok (.imul, 1) := by decide +kernel
theorem d149_44 : decode (ai_b 149) 44 = .ok (.iload_n 3, 1) := by decide +kernel
theorem d149_45 : decode (ai_b 149) 45 = .ok (.iadd, 1) := by decide +kernel
theorem d149_46 : decode (ai_b 149) 46 = .ok (.iaload, 1) := by decide +kernel
theorem d149_47 : decode (ai_b 149) 47 = .ok (.iastore, 1) := by decide +kernel
theorem d149_48 : decode (ai_b 149) 48 = .ok (.iinc 3 1, 3) := by decide +kernel
theorem d149_51 : decode (ai_b 149) 51 = .ok (.goto (-37), 3) := by decide +kernel
theorem d149_54 : decode (ai_b 149) 54 = .ok (.return_, 1) := by decide +kernel
