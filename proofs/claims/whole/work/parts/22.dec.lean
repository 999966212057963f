theorem dX0_init_0 : decode cX0_init 0 = .ok (.aload_n 0, 1) := by decide +kernel
theorem dX0_init_1 : decode cX0_init 1 = .ok (.invokespecial 3, 3) := by decide +kernel
theorem dX0_init_4 : decode cX0_init 4 = .ok (.aload_n 0, 1) := by decide +kernel
theorem dX0_init_5 : decode cX0_init 5 = .ok (.bipush 25, 2) := by decide +kernel
theorem dX0_init_7 : decode cX0_init 7 = .ok (.bipush 25, 2) := by decide +kernel
theorem dX0_init_9 : decode cX0_init 9 = .ok (.multianewarray 9 2, 4) := by decide +kernel
theorem dX0_init_13 : decode cX0_init 13 = .ok (.putfield 11, 3) := by decide +kernel
theorem dX0_init_16 : decode cX0_init 16 = .ok (.aload_n 0, 1) := by decide +kernel
theorem dX0_init_17 : decode cX0_init 17 = .ok (.bipush 48, 2) := by decide +kernel
theorem dX0_init_19 : decode cX0_init 19 = .ok (.newarray .int, 2) := by decide +kernel
theorem dX0_init_21 : decode cX0_init 21 = .ok (.putfield 16, 3) := by decide +kernel
theorem dX0_init_24 : decode cX0_init 24 = .ok (.aload_n 0, 1) := by decide +kernel
theorem dX0_init_25 : decode cX0_init 25 = .ok (.bipush 48, 2) := by decide +kernel
theorem dX0_init_27 : decode cX0_init 27 = .ok (.newarray .int, 2) := by decide +kernel
theorem dX0_init_29 : decode cX0_init 29 = .ok (.putfield 20, 3) := by decide +kernel
theorem dX0_init_32 : decode cX0_init 32 = .ok (.aload_n 0, 1) := by decide +kernel
theorem dX0_init_33 : decode cX0_init 33 = .ok (.bipush 48, 2) := by decide +kernel
theorem dX0_init_35 : decode cX0_init 35 = .ok (.newarray .int, 2) := by decide +kernel
theorem dX0_init_37 : decode cX0_init 37 = .ok (.putfield 23, 3) := by decide +kernel
theorem dX0_init_40 : decode cX0_init 40 = .ok (.aload_n 0, 1) := by decide +kernel
theorem dX0_init_41 : decode cX0_init 41 = .ok (.aload_n 1, 1) := by decide +kernel
theorem dX0_init_42 : decode cX0_init 42 = .ok (.putfield 26, 3) := by decide +kernel
theorem dX0_init_45 : decode cX0_init 45 = .ok (.return_, 1) := by decide +kernel
theorem dX0_leastSum_0 : decode cX0_leastSum 0 = .ok (.aload_n 0, 1) := by decide +kernel
theorem dX0_leastSum_1 : decode cX0_leastSum 1 = .ok (.getfield 26, 3) := by decide +kernel
theorem dX0_leastSum_4 : decode cX0_leastSum 4 = .ok (.invokevirtual 30, 3) := by decide +kernel
theorem dX0_leastSum_7 : decode cX0_leastSum 7 = .ok (.istore 5, 2) := by decide +kernel
theorem dX0_leastSum_9 : decode cX0_leastSum 9 = .ok (.aload_n 1, 1) := by decide +kernel
theorem dX0_leastSum_10 : decode cX0_leastSum 10 = .ok (.getfield 36, 3) := by decide +kernel
theorem dX0_leastSum_13 : decode cX0_leastSum 13 = .ok (.bipush 24, 2) := by decide +kernel
theorem dX0_leastSum_15 : decode cX0_leastSum 15 = .ok (.invokestatic 42, 3) := by decide +kernel
theorem dX0_leastSum_18 : decode cX0_leastSum 18 = .ok (.istore 6, 2) := by decide +kernel
theorem dX0_leastSum_20 : decode cX0_leastSum 20 = .ok (.aload_n 2, 1) := by decide +kernel
theorem dX0_leastSum_21 : decode cX0_leastSum 21 = .ok (.getfield 36, 3) := by decide +kernel
theorem dX0_leastSum_24 : decode cX0_leastSum 24 = .ok (.bipush 24, 2) := by decide +kernel
theorem dX0_leastSum_26 : decode cX0_leastSum 26 = .ok (.invokestatic 42, 3) := by decide +kernel
theorem dX0_leastSum_29 : decode cX0_leastSum 29 = .ok (.istore 7, 2) := by decide +kernel
theorem dX0_leastSum_31 : decode cX0_leastSum 31 = .ok (.aload_n 0, 1) := by decide +kernel
theorem dX0_leastSum_32 : decode cX0_leastSum 32 = .ok (.aload_n 2, 1) := by decide +kernel
theorem dX0_leastSum_33 : decode cX0_leastSum 33 = .ok (.iload 7, 2) := by decide +kernel
theorem dX0_leastSum_35 : decode cX0_leastSum 35 = .ok (.iload 5, 2) := by decide +kernel
theorem dX0_leastSum_37 : decode cX0_leastSum 37 = .ok (.invokevirtual 48, 3) := by decide +kernel
theorem dX0_leastSum_40 : decode cX0_leastSum 40 = .ok (.iconst 1, 1) := by decide +kernel
theorem dX0_leastSum_41 : decode cX0_leastSum 41 = .ok (.istore 8, 2) := by decide +kernel
theorem dX0_leastSum_43 : decode cX0_leastSum 43 = .ok (.iload 8, 2) := by decide +kernel
theorem dX0_leastSum_45 : decode cX0_leastSum 45 = .ok (.iload 6, 2) := by decide +kernel
theorem dX0_leastSum_47 : decode cX0_leastSum 47 = .ok (.if_icmp .gt 256, 3) := by decide +kernel
theorem dX0_leastSum_50 : decode cX0_leastSum 50 = .ok (.aload_n 0, 1) := by decide +kernel
theorem dX0_leastSum_51 : decode cX0_leastSum 51 = .ok (.getfield 11, 3) := by decide +kernel
theorem dX0_leastSum_54 : decode cX0_leastSum 54 = .ok (.iload 8, 2) := by decide +kernel
theorem dX0_leastSum_56 : decode cX0_leastSum 56 = .ok (.iconst 1, 1) := by decide +kernel
theorem dX0_leastSum_57 : decode cX0_leastSum 57 = .ok (.isub, 1) := by decide +kernel
theorem dX0_leastSum_58 : decode cX0_leastSum 58 = .ok (.aaload, 1) := by decide +kernel
theorem dX0_leastSum_59 : decode cX0_leastSum 59 = .ok (.astore 9, 2) := by decide +kernel
theorem dX0_leastSum_61 : decode cX0_leastSum 61 = .ok (.aload_n 0, 1) := by decide +kernel
theorem dX0_leastSum_62 : decode cX0_leastSum 62 = .ok (.getfield 11, 3) := by decide +kernel
theorem dX0_leastSum_65 : decode cX0_leastSum 65 = .ok (.iload 8, 2) := by decide +kernel
theorem dX0_leastSum_67 : decode cX0_leastSum 67 = .ok (.aaload, 1) := by decide +kernel
theorem dX0_leastSum_68 : decode cX0_leastSum 68 = .ok (.astore 10, 2) := by decide +kernel
theorem dX0_leastSum_70 : decode cX0_leastSum 70 = .ok (.aload_n 1, 1) := by decide +kernel
theorem dX0_leastSum_71 : decode cX0_leastSum 71 = .ok (.getfield 52, 3) := by decide +kernel
theorem dX0_leastSum_74 : decode cX0_leastSum 74 = .ok (.iload 8, 2) := by decide +kernel
theorem dX0_leastSum_76 : decode cX0_leastSum 76 = .ok (.iconst 1, 1) := by decide +kernel
theorem dX0_leastSum_77 : decode cX0_leastSum 77 = .ok (.isub, 1) := by decide +kernel
theorem dX0_leastSum_78 : decode cX0_leastSum 78 = .ok (.iaload, 1) := by decide +kernel
theorem dX0_leastSum_79 : decode cX0_leastSum 79 = .ok (.istore 11, 2) := by decide +kernel
theorem dX0_leastSum_81 : decode cX0_leastSum 81 = .ok (.aload_n 1, 1) := by decide +kernel
theorem dX0_leastSum_82 : decode cX0_leastSum 82 = .ok (.getfield 55, 3) := by decide +kernel
theorem dX0_leastSum_85 : decode cX0_leastSum 85 = .ok (.iload 8, 2) := by decide +kernel
theorem dX0_leastSum_87 : decode cX0_leastSum 87 = .ok (.iconst 1, 1) := by decide +kernel
theorem dX0_leastSum_88 : decode cX0_leastSum 88 = .ok (.isub, 1) := by decide +kernel
theorem dX0_leastSum_89 : decode cX0_leastSum 89 = .ok (.iaload, 1) := by decide +kernel
theorem dX0_leastSum_90 : decode cX0_leastSum 90 = .ok (.istore 12, 2) := by decide +kernel
theorem dX0_leastSum_92 : decode cX0_leastSum 92 = .ok (.iload 11, 2) := by decide +kernel
theorem dX0_leastSum_94 : decode cX0_leastSum 94 = .ok (.iconst (-1), 1) := by decide +kernel
theorem dX0_leastSum_95 : decode cX0_leastSum 95 = .ok (.if_icmp .ne 7, 3) := by decide +kernel
theorem dX0_leastSum_98 : decode cX0_leastSum 98 = .ok (.iconst 0, 1) := by decide +kernel
theorem dX0_leastSum_99 : decode cX0_leastSum 99 = .ok (.goto 5, 3) := by decide +kernel
theorem dX0_leastSum_102 : decode cX0_leastSum 102 = .ok (.iload 5, 2) := by decide +kernel
theorem dX0_leastSum_104 : decode cX0_leastSum 104 = .ok (.istore 13, 2) := by decide +kernel
theorem dX0_leastSum_106 : decode cX0_leastSum 106 = .ok (.aload 10, 2) := by decide +kernel
theorem dX0_leastSum_108 : decode cX0_leastSum 108 = .ok (.iconst 0, 1) := by decide +kernel
theorem dX0_leastSum_109 : decode cX0_leastSum 109 = .ok (.aload 9, 2) := by decide +kernel
theorem dX0_leastSum_111 : decode cX0_leastSum 111 = .ok (.iconst 0, 1) := by decide +kernel
theorem dX0_leastSum_112 : decode cX0_leastSum 112 = .ok (.iaload, 1) := by decide +kernel
theorem dX0_leastSum_113 : decode cX0_leastSum 113 = .ok (.iload 13, 2) := by decide +kernel
theorem dX0_leastSum_115 : decode cX0_leastSum 115 = .ok (.iadd, 1) := by decide +kernel
theorem dX0_leastSum_116 : decode cX0_leastSum 116 = .ok (.iastore, 1) := by decide +kernel
theorem dX0_leastSum_117 : decode cX0_leastSum 117 = .ok (.aload 10, 2) := by decide +kernel
theorem dX0_leastSum_119 : decode cX0_leastSum 119 = .ok (.iconst 0, 1) := by decide +kernel
theorem dX0_leastSum_120 : decode cX0_leastSum 120 = .ok (.iaload, 1) := by decide +kernel
theorem dX0_leastSum_121 : decode cX0_leastSum 121 = .ok (.istore 14, 2) := by decide +kernel
theorem dX0_leastSum_123 : decode cX0_leastSum 123 = .ok (.iconst 1, 1) := by decide +kernel
theorem dX0_leastSum_124 : decode cX0_leastSum 124 = .ok (.istore 15, 2) := by decide +kernel
theorem dX0_leastSum_126 : decode cX0_leastSum 126 = .ok (.iload 15, 2) := by decide +kernel
theorem dX0_leastSum_128 : decode cX0_leastSum 128 = .ok (.iload 7, 2) := by decide +kernel
theorem dX0_leastSum_130 : decode cX0_leastSum 130 = .ok (.if_icmp .gt 157, 3) := by decide +kernel
theorem dX0_leastSum_133 : decode cX0_leastSum 133 = .ok (.aload 9, 2) := by decide +kernel
theorem dX0_leastSum_135 : decode cX0_leastSum 135 = .ok (.iload 15, 2) := by decide +kernel
theorem dX0_leastSum_137 : decode cX0_leastSum 137 = .ok (.iconst 1, 1) := by decide +kernel
theorem dX0_leastSum_138 : decode cX0_leastSum 138 = .ok (.isub, 1) := by decide +kernel
theorem dX0_leastSum_139 : decode cX0_leastSum 139 = .ok (.iaload, 1) := by decide +kernel
theorem dX0_leastSum_140 : decode cX0_leastSum 140 = .ok (.istore 16, 2) := by decide +kernel
theorem dX0_leastSum_142 : decode cX0_leastSum 142 = .ok (.aload 10, 2) := by decide +kernel
theorem dX0_leastSum_144 : decode cX0_leastSum 144 = .ok (.iload 15, 2) := by decide +kernel
theorem dX0_leastSum_146 : decode cX0_leastSum 146 = .ok (.iconst 1, 1) := by decide +kernel
theorem dX0_leastSum_147 : decode cX0_leastSum 147 = .ok (.isub, 1) := by decide +kernel
theorem dX0_leastSum_148 : decode cX0_leastSum 148 = .ok (.iaload, 1) := by decide +kernel
theorem dX0_leastSum_149 : decode cX0_leastSum 149 = .ok (.istore 17, 2) := by decide +kernel
theorem dX0_leastSum_151 : decode cX0_leastSum 151 = .ok (.aload_n 2, 1) := by decide +kernel
theorem dX0_leastSum_152 : decode cX0_leastSum 152 = .ok (.getfield 52, 3) := by decide +kernel
theorem dX0_leastSum_155 : decode cX0_leastSum 155 = .ok (.iload 15, 2) := by decide +kernel
theorem dX0_leastSum_157 : decode cX0_leastSum 157 = .ok (.iconst 1, 1) := by decide +kernel
theorem dX0_leastSum_158 : decode cX0_leastSum 158 = .ok (.isub, 1) := by decide +kernel
theorem dX0_leastSum_159 : decode cX0_leastSum 159 = .ok (.iaload, 1) := by decide +kernel
theorem dX0_leastSum_160 : decode cX0_leastSum 160 = .ok (.istore 18, 2) := by decide +kernel
theorem dX0_leastSum_162 : decode cX0_leastSum 162 = .ok (.iload 18, 2) := by decide +kernel
theorem dX0_leastSum_164 : decode cX0_leastSum 164 = .ok (.iconst (-1), 1) := by decide +kernel
theorem dX0_leastSum_165 : decode cX0_leastSum 165 = .ok (.if_icmp .eq 51, 3) := by decide +kernel
theorem dX0_leastSum_168 : decode cX0_leastSum 168 = .ok (.iload 17, 2) := by decide +kernel
theorem dX0_leastSum_170 : decode cX0_leastSum 170 = .ok (.iload 5, 2) := by decide +kernel
theorem dX0_leastSum_172 : decode cX0_leastSum 172 = .ok (.iadd, 1) := by decide +kernel
theorem dX0_leastSum_173 : decode cX0_leastSum 173 = .ok (.istore 17, 2) := by decide +kernel
theorem dX0_leastSum_175 : decode cX0_leastSum 175 = .ok (.iload 16, 2) := by decide +kernel
theorem dX0_leastSum_177 : decode cX0_leastSum 177 = .ok (.iload 11, 2) := by decide +kernel
theorem dX0_leastSum_179 : decode cX0_leastSum 179 = .ok (.iconst (-1), 1) := by decide +kernel
theorem dX0_leastSum_180 : decode cX0_leastSum 180 = .ok (.if_icmp .ne 7, 3) := by decide +kernel
theorem dX0_leastSum_183 : decode cX0_leastSum 183 = .ok (.iconst 0, 1) := by decide +kernel
theorem dX0_leastSum_184 : decode cX0_leastSum 184 = .ok (.goto 29, 3) := by decide +kernel
theorem dX0_leastSum_187 : decode cX0_leastSum 187 = .ok (.aload_n 0, 1) := by decide +kernel
theorem dX0_leastSum_188 : decode cX0_leastSum 188 = .ok (.getfield 26, 3) := by decide +kernel
theorem dX0_leastSum_191 : decode cX0_leastSum 191 = .ok (.iload 11, 2) := by decide +kernel
theorem dX0_leastSum_193 : decode cX0_leastSum 193 = .ok (.iload_n 3, 1) := by decide +kernel
theorem dX0_leastSum_194 : decode cX0_leastSum 194 = .ok (.iadd, 1) := by decide +kernel
theorem dX0_leastSum_195 : decode cX0_leastSum 195 = .ok (.iload 18, 2) := by decide +kernel
theorem dX0_leastSum_197 : decode cX0_leastSum 197 = .ok (.isub, 1) := by decide +kernel
theorem dX0_leastSum_198 : decode cX0_leastSum 198 = .ok (.iload 12, 2) := by decide +kernel
theorem dX0_leastSum_200 : decode cX0_leastSum 200 = .ok (.aload_n 2, 1) := by decide +kernel
theorem dX0_leastSum_201 : decode cX0_leastSum 201 = .ok (.getfield 55, 3) := by decide +kernel
theorem dX0_leastSum_204 : decode cX0_leastSum 204 = .ok (.iload 15, 2) := by decide +kernel
theorem dX0_leastSum_206 : decode cX0_leastSum 206 = .ok (.iconst 1, 1) := by decide +kernel
theorem dX0_leastSum_207 : decode cX0_leastSum 207 = .ok (.isub, 1) := by decide +kernel
theorem dX0_leastSum_208 : decode cX0_leastSum 208 = .ok (.iaload, 1) := by decide +kernel
theorem dX0_leastSum_209 : decode cX0_leastSum 209 = .ok (.isub, 1) := by decide +kernel
theorem dX0_leastSum_210 : decode cX0_leastSum 210 = .ok (.invokevirtual 58, 3) := by decide +kernel
theorem dX0_leastSum_213 : decode cX0_leastSum 213 = .ok (.iadd, 1) := by decide +kernel
theorem dX0_leastSum_214 : decode cX0_leastSum 214 = .ok (.istore 16, 2) := by decide +kernel
theorem dX0_leastSum_216 : decode cX0_leastSum 216 = .ok (.aload 9, 2) := by decide +kernel
theorem dX0_leastSum_218 : decode cX0_leastSum 218 = .ok (.iload 15, 2) := by decide +kernel
theorem dX0_leastSum_220 : decode cX0_leastSum 220 = .ok (.iaload, 1) := by decide +kernel
theorem dX0_leastSum_221 : decode cX0_leastSum 221 = .ok (.iload 13, 2) := by decide +kernel
theorem dX0_leastSum_223 : decode cX0_leastSum 223 = .ok (.iadd, 1) := by decide +kernel
theorem dX0_leastSum_224 : decode cX0_leastSum 224 = .ok (.istore 19, 2) := by decide +kernel
theorem dX0_leastSum_226 : decode cX0_leastSum 226 = .ok (.iload 17, 2) := by decide +kernel
theorem dX0_leastSum_228 : decode cX0_leastSum 228 = .ok (.iload 19, 2) := by decide +kernel
theorem dX0_leastSum_230 : decode cX0_leastSum 230 = .ok (.if_icmp .ge 8, 3) := by decide +kernel
theorem dX0_leastSum_233 : decode cX0_leastSum 233 = .ok (.iload 17, 2) := by decide +kernel
theorem dX0_leastSum_235 : decode cX0_leastSum 235 = .ok (.goto 5, 3) := by decide +kernel
theorem dX0_leastSum_238 : decode cX0_leastSum 238 = .ok (.iload 19, 2) := by decide +kernel
theorem dX0_leastSum_240 : decode cX0_leastSum 240 = .ok (.istore 19, 2) := by decide +kernel
theorem dX0_leastSum_242 : decode cX0_leastSum 242 = .ok (.iload 16, 2) := by decide +kernel
theorem dX0_leastSum_244 : decode cX0_leastSum 244 = .ok (.iload 19, 2) := by decide +kernel
theorem dX0_leastSum_246 : decode cX0_leastSum 246 = .ok (.if_icmp .ge 8, 3) := by decide +kernel
theorem dX0_leastSum_249 : decode cX0_leastSum 249 = .ok (.iload 16, 2) := by decide +kernel
theorem dX0_leastSum_251 : decode cX0_leastSum 251 = .ok (.goto 5, 3) := by decide +kernel
theorem dX0_leastSum_254 : decode cX0_leastSum 254 = .ok (.iload 19, 2) := by decide +kernel
theorem dX0_leastSum_256 : decode cX0_leastSum 256 = .ok (.istore 19, 2) := by decide +kernel
theorem dX0_leastSum_258 : decode cX0_leastSum 258 = .ok (.aload 10, 2) := by decide +kernel
theorem dX0_leastSum_260 : decode cX0_leastSum 260 = .ok (.iload 15, 2) := by decide +kernel
theorem dX0_leastSum_262 : decode cX0_leastSum 262 = .ok (.iload 19, 2) := by decide +kernel
theorem dX0_leastSum_264 : decode cX0_leastSum 264 = .ok (.iastore, 1) := by decide +kernel
theorem dX0_leastSum_265 : decode cX0_leastSum 265 = .ok (.iload 19, 2) := by decide +kernel
theorem dX0_leastSum_267 : decode cX0_leastSum 267 = .ok (.iload 14, 2) := by decide +kernel
theorem dX0_leastSum_269 : decode cX0_leastSum 269 = .ok (.if_icmp .ge 8, 3) := by decide +kernel
theorem dX0_leastSum_272 : decode cX0_leastSum 272 = .ok (.iload 19, 2) := by decide +kernel
theorem dX0_leastSum_274 : decode cX0_leastSum 274 = .ok (.goto 5, 3) := by decide +kernel
theorem dX0_leastSum_277 : decode cX0_leastSum 277 = .ok (.iload 14, 2) := by decide +kernel
theorem dX0_leastSum_279 : decode cX0_leastSum 279 = .ok (.istore 14, 2) := by decide +kernel
theorem dX0_leastSum_281 : decode cX0_leastSum 281 = .ok (.iinc 15 1, 3) := by decide +kernel
theorem dX0_leastSum_284 : decode cX0_leastSum 284 = .ok (.goto (-158), 3) := by decide +kernel
theorem dX0_leastSum_287 : decode cX0_leastSum 287 = .ok (.iload 14, 2) := by decide +kernel
theorem dX0_leastSum_289 : decode cX0_leastSum 289 = .ok (.iload 4, 2) := by decide +kernel
theorem dX0_leastSum_291 : decode cX0_leastSum 291 = .ok (.if_icmp .lt 6, 3) := by decide +kernel
theorem dX0_leastSum_294 : decode cX0_leastSum 294 = .ok (.iload 4, 2) := by decide +kernel
theorem dX0_leastSum_296 : decode cX0_leastSum 296 = .ok (.ireturn, 1) := by decide +kernel
theorem dX0_leastSum_297 : decode cX0_leastSum 297 = .ok (.iinc 8 1, 3) := by decide +kernel
theorem dX0_leastSum_300 : decode cX0_leastSum 300 = .ok (.goto (-257), 3) := by decide +kernel
theorem dX0_leastSum_303 : decode cX0_leastSum 303 = .ok (.aload_n 0, 1) := by decide +kernel
theorem dX0_leastSum_304 : decode cX0_leastSum 304 = .ok (.getfield 11, 3) := by decide +kernel
theorem dX0_leastSum_307 : decode cX0_leastSum 307 = .ok (.iload 6, 2) := by decide +kernel
theorem dX0_leastSum_309 : decode cX0_leastSum 309 = .ok (.aaload, 1) := by decide +kernel
theorem dX0_leastSum_310 : decode cX0_leastSum 310 = .ok (.iload 7, 2) := by decide +kernel
theorem dX0_leastSum_312 : decode cX0_leastSum 312 = .ok (.iaload, 1) := by decide +kernel
theorem dX0_leastSum_313 : decode cX0_leastSum 313 = .ok (.ireturn, 1) := by decide +kernel
theorem dX0_fillFirstRow_0 : decode cX0_fillFirstRow 0 = .ok (.aload_n 0, 1) := by decide +kernel
theorem dX0_fillFirstRow_1 : decode cX0_fillFirstRow 1 = .ok (.getfield 11, 3) := by decide +kernel
theorem dX0_fillFirstRow_4 : decode cX0_fillFirstRow 4 = .ok (.iconst 0, 1) := by decide +kernel
theorem dX0_fillFirstRow_5 : decode cX0_fillFirstRow 5 = .ok (.aaload, 1) := by decide +kernel
theorem dX0_fillFirstRow_6 : decode cX0_fillFirstRow 6 = .ok (.astore 4, 2) := by decide +kernel
theorem dX0_fillFirstRow_8 : decode cX0_fillFirstRow 8 = .ok (.aload 4, 2) := by decide +kernel
theorem dX0_fillFirstRow_10 : decode cX0_fillFirstRow 10 = .ok (.iconst 0, 1) := by decide +kernel
theorem dX0_fillFirstRow_11 : decode cX0_fillFirstRow 11 = .ok (.iconst 0, 1) := by decide +kernel
theorem dX0_fillFirstRow_12 : decode cX0_fillFirstRow 12 = .ok (.iastore, 1) := by decide +kernel
theorem dX0_fillFirstRow_13 : decode cX0_fillFirstRow 13 = .ok (.iconst 1, 1) := by decide +kernel
theorem dX0_fillFirstRow_14 : decode cX0_fillFirstRow 14 = .ok (.istore 5, 2) := by decide +kernel
theorem dX0_fillFirstRow_16 : decode cX0_fillFirstRow 16 = .ok (.iload 5, 2) := by decide +kernel
theorem dX0_fillFirstRow_18 : decode cX0_fillFirstRow 18 = .ok (.iload_n 2, 1) := by decide +kernel
theorem dX0_fillFirstRow_19 : decode cX0_fillFirstRow 19 = .ok (.if_icmp .gt 40, 3) := by decide +kernel
theorem dX0_fillFirstRow_22 : decode cX0_fillFirstRow 22 = .ok (.aload 4, 2) := by decide +kernel
theorem dX0_fillFirstRow_24 : decode cX0_fillFirstRow 24 = .ok (.iload 5, 2) := by decide +kernel
theorem dX0_fillFirstRow_26 : decode cX0_fillFirstRow 26 = .ok (.aload 4, 2) := by decide +kernel
theorem dX0_fillFirstRow_28 : decode cX0_fillFirstRow 28 = .ok (.iload 5, 2) := by decide +kernel
theorem dX0_fillFirstRow_30 : decode cX0_fillFirstRow 30 = .ok (.iconst 1, 1) := by decide +kernel
theorem dX0_fillFirstRow_31 : decode cX0_fillFirstRow 31 = .ok (.isub, 1) := by decide +kernel
theorem dX0_fillFirstRow_32 : decode cX0_fillFirstRow 32 = .ok (.iaload, 1) := by decide +kernel
theorem dX0_fillFirstRow_33 : decode cX0_fillFirstRow 33 = .ok (.aload_n 1, 1) := by decide +kernel
theorem dX0_fillFirstRow_34 : decode cX0_fillFirstRow 34 = .ok (.getfield 52, 3) := by decide +kernel
theorem dX0_fillFirstRow_37 : decode cX0_fillFirstRow 37 = .ok (.iload 5, 2) := by decide +kernel
theorem dX0_fillFirstRow_39 : decode cX0_fillFirstRow 39 = .ok (.iconst 1, 1) := by decide +kernel
theorem dX0_fillFirstRow_40 : decode cX0_fillFirstRow 40 = .ok (.isub, 1) := by decide +kernel
theorem dX0_fillFirstRow_41 : decode cX0_fillFirstRow 41 = .ok (.iaload, 1) := by decide +kernel
theorem dX0_fillFirstRow_42 : decode cX0_fillFirstRow 42 = .ok (.iconst (-1), 1) := by decide +kernel
theorem dX0_fillFirstRow_43 : decode cX0_fillFirstRow 43 = .ok (.if_icmp .ne 7, 3) := by decide +kernel
theorem dX0_fillFirstRow_46 : decode cX0_fillFirstRow 46 = .ok (.iconst 0, 1) := by decide +kernel
theorem dX0_fillFirstRow_47 : decode cX0_fillFirstRow 47 = .ok (.goto 4, 3) := by decide +kernel
theorem dX0_fillFirstRow_50 : decode cX0_fillFirstRow 50 = .ok (.iload_n 3, 1) := by decide +kernel
theorem dX0_fillFirstRow_51 : decode cX0_fillFirstRow 51 = .ok (.iadd, 1) := by decide +kernel
theorem dX0_fillFirstRow_52 : decode cX0_fillFirstRow 52 = .ok (.iastore, 1) := by decide +kernel
theorem dX0_fillFirstRow_53 : decode cX0_fillFirstRow 53 = .ok (.iinc 5 1, 3) := by decide +kernel
theorem dX0_fillFirstRow_56 : decode cX0_fillFirstRow 56 = .ok (.goto (-40), 3) := by decide +kernel
theorem dX0_fillFirstRow_59 : decode cX0_fillFirstRow 59 = .ok (.return_, 1) := by decide +kernel
theorem dX0_layOut_0 : decode cX0_layOut 0 = .ok (.aload_n 0, 1) := by decide +kernel
theorem dX0_layOut_1 : decode cX0_layOut 1 = .ok (.aload_n 1, 1) := by decide +kernel
theorem dX0_layOut_2 : decode cX0_layOut 2 = .ok (.aload_n 2, 1) := by decide +kernel
theorem dX0_layOut_3 : decode cX0_layOut 3 = .ok (.iload_n 3, 1) := by decide +kernel
theorem dX0_layOut_4 : decode cX0_layOut 4 = .ok (.ldc 61, 2) := by decide +kernel
theorem dX0_layOut_6 : decode cX0_layOut 6 = .ok (.invokevirtual 62, 3) := by decide +kernel
theorem dX0_layOut_9 : decode cX0_layOut 9 = .ok (.pop, 1) := by decide +kernel
theorem dX0_layOut_10 : decode cX0_layOut 10 = .ok (.aload_n 0, 1) := by decide +kernel
theorem dX0_layOut_11 : decode cX0_layOut 11 = .ok (.iload_n 3, 1) := by decide +kernel
theorem dX0_layOut_12 : decode cX0_layOut 12 = .ok (.putfield 66, 3) := by decide +kernel
theorem dX0_layOut_15 : decode cX0_layOut 15 = .ok (.aload_n 0, 1) := by decide +kernel
theorem dX0_layOut_16 : decode cX0_layOut 16 = .ok (.iconst 0, 1) := by decide +kernel
theorem dX0_layOut_17 : decode cX0_layOut 17 = .ok (.putfield 69, 3) := by decide +kernel
theorem dX0_layOut_20 : decode cX0_layOut 20 = .ok (.aload_n 1, 1) := by decide +kernel
theorem dX0_layOut_21 : decode cX0_layOut 21 = .ok (.invokevirtual 72, 3) := by decide +kernel
theorem dX0_layOut_24 : decode cX0_layOut 24 = .ok (.bipush 24, 2) := by decide +kernel
theorem dX0_layOut_26 : decode cX0_layOut 26 = .ok (.invokestatic 42, 3) := by decide +kernel
theorem dX0_layOut_29 : decode cX0_layOut 29 = .ok (.istore 4, 2) := by decide +kernel
theorem dX0_layOut_31 : decode cX0_layOut 31 = .ok (.aload_n 2, 1) := by decide +kernel
theorem dX0_layOut_32 : decode cX0_layOut 32 = .ok (.invokevirtual 72, 3) := by decide +kernel
theorem dX0_layOut_35 : decode cX0_layOut 35 = .ok (.bipush 24, 2) := by decide +kernel
theorem dX0_layOut_37 : decode cX0_layOut 37 = .ok (.invokestatic 42, 3) := by decide +kernel
theorem dX0_layOut_40 : decode cX0_layOut 40 = .ok (.istore 5, 2) := by decide +kernel
theorem dX0_layOut_42 : decode cX0_layOut 42 = .ok (.iload 4, 2) := by decide +kernel
theorem dX0_layOut_44 : decode cX0_layOut 44 = .ok (.ifCond .gt 8, 3) := by decide +kernel
theorem dX0_layOut_47 : decode cX0_layOut 47 = .ok (.iload 5, 2) := by decide +kernel
theorem dX0_layOut_49 : decode cX0_layOut 49 = .ok (.ifCond .le 135, 3) := by decide +kernel
theorem dX0_layOut_52 : decode cX0_layOut 52 = .ok (.aload_n 0, 1) := by decide +kernel
theorem dX0_layOut_53 : decode cX0_layOut 53 = .ok (.getfield 69, 3) := by decide +kernel
theorem dX0_layOut_56 : decode cX0_layOut 56 = .ok (.bipush 48, 2) := by decide +kernel
theorem dX0_layOut_58 : decode cX0_layOut 58 = .ok (.if_icmp .ge 126, 3) := by decide +kernel
theorem dX0_layOut_61 : decode cX0_layOut 61 = .ok (.iload 4, 2) := by decide +kernel
theorem dX0_layOut_63 : decode cX0_layOut 63 = .ok (.ifCond .le 53, 3) := by decide +kernel
theorem dX0_layOut_66 : decode cX0_layOut 66 = .ok (.iload 5, 2) := by decide +kernel
theorem dX0_layOut_68 : decode cX0_layOut 68 = .ok (.ifCond .le 48, 3) := by decide +kernel
theorem dX0_layOut_71 : decode cX0_layOut 71 = .ok (.aload_n 0, 1) := by decide +kernel
theorem dX0_layOut_72 : decode cX0_layOut 72 = .ok (.aload_n 1, 1) := by decide +kernel
theorem dX0_layOut_73 : decode cX0_layOut 73 = .ok (.iload 4, 2) := by decide +kernel
theorem dX0_layOut_75 : decode cX0_layOut 75 = .ok (.aload_n 2, 1) := by decide +kernel
theorem dX0_layOut_76 : decode cX0_layOut 76 = .ok (.iload 5, 2) := by decide +kernel
theorem dX0_layOut_78 : decode cX0_layOut 78 = .ok (.iload_n 3, 1) := by decide +kernel
theorem dX0_layOut_79 : decode cX0_layOut 79 = .ok (.invokevirtual 74, 3) := by decide +kernel
theorem dX0_layOut_82 : decode cX0_layOut 82 = .ok (.ifCond .eq 34, 3) := by decide +kernel
theorem dX0_layOut_85 : decode cX0_layOut 85 = .ok (.iinc 4 (-1), 3) := by decide +kernel
theorem dX0_layOut_88 : decode cX0_layOut 88 = .ok (.iinc 5 (-1), 3) := by decide +kernel
theorem dX0_layOut_91 : decode cX0_layOut 91 = .ok (.aload_n 0, 1) := by decide +kernel
theorem dX0_layOut_92 : decode cX0_layOut 92 = .ok (.iload 4, 2) := by decide +kernel
theorem dX0_layOut_94 : decode cX0_layOut 94 = .ok (.iload 5, 2) := by decide +kernel
theorem dX0_layOut_96 : decode cX0_layOut 96 = .ok (.aload_n 0, 1) := by decide +kernel
theorem dX0_layOut_97 : decode cX0_layOut 97 = .ok (.getfield 26, 3) := by decide +kernel
theorem dX0_layOut_100 : decode cX0_layOut 100 = .ok (.aload_n 1, 1) := by decide +kernel
theorem dX0_layOut_101 : decode cX0_layOut 101 = .ok (.iload 4, 2) := by decide +kernel
theorem dX0_layOut_103 : decode cX0_layOut 103 = .ok (.aload_n 2, 1) := by decide +kernel
theorem dX0_layOut_104 : decode cX0_layOut 104 = .ok (.iload 5, 2) := by decide +kernel
theorem dX0_layOut_106 : decode cX0_layOut 106 = .ok (.iload_n 3, 1) := by decide +kernel
theorem dX0_layOut_107 : decode cX0_layOut 107 = .ok (.invokevirtual 78, 3) := by decide +kernel
theorem dX0_layOut_110 : decode cX0_layOut 110 = .ok (.invokevirtual 82, 3) := by decide +kernel
theorem dX0_layOut_113 : decode cX0_layOut 113 = .ok (.goto (-71), 3) := by decide +kernel
theorem dX0_layOut_116 : decode cX0_layOut 116 = .ok (.iload 4, 2) := by decide +kernel
theorem dX0_layOut_118 : decode cX0_layOut 118 = .ok (.ifCond .le 43, 3) := by decide +kernel
theorem dX0_layOut_121 : decode cX0_layOut 121 = .ok (.iload 5, 2) := by decide +kernel
theorem dX0_layOut_123 : decode cX0_layOut 123 = .ok (.ifCond .eq 15, 3) := by decide +kernel
theorem dX0_layOut_126 : decode cX0_layOut 126 = .ok (.aload_n 0, 1) := by decide +kernel
theorem dX0_layOut_127 : decode cX0_layOut 127 = .ok (.aload_n 1, 1) := by decide +kernel
theorem dX0_layOut_128 : decode cX0_layOut 128 = .ok (.iload 4, 2) := by decide +kernel
theorem dX0_layOut_130 : decode cX0_layOut 130 = .ok (.iload 5, 2) := by decide +kernel
theorem dX0_layOut_132 : decode cX0_layOut 132 = .ok (.invokevirtual 86, 3) := by decide +kernel
theorem dX0_layOut_135 : decode cX0_layOut 135 = .ok (.ifCond .eq 26, 3) := by decide +kernel
theorem dX0_layOut_138 : decode cX0_layOut 138 = .ok (.iinc 4 (-1), 3) := by decide +kernel
theorem dX0_layOut_141 : decode cX0_layOut 141 = .ok (.aload_n 0, 1) := by decide +kernel
theorem dX0_layOut_142 : decode cX0_layOut 142 = .ok (.iload 4, 2) := by decide +kernel
theorem dX0_layOut_144 : decode cX0_layOut 144 = .ok (.iconst (-1), 1) := by decide +kernel
theorem dX0_layOut_145 : decode cX0_layOut 145 = .ok (.aload_n 0, 1) := by decide +kernel
theorem dX0_layOut_146 : decode cX0_layOut 146 = .ok (.getfield 26, 3) := by decide +kernel
theorem dX0_layOut_149 : decode cX0_layOut 149 = .ok (.aload_n 1, 1) := by decide +kernel
theorem dX0_layOut_150 : decode cX0_layOut 150 = .ok (.iload 4, 2) := by decide +kernel
theorem dX0_layOut_152 : decode cX0_layOut 152 = .ok (.invokevirtual 90, 3) := by decide +kernel
theorem dX0_layOut_155 : decode cX0_layOut 155 = .ok (.invokevirtual 82, 3) := by decide +kernel
theorem dX0_layOut_158 : decode cX0_layOut 158 = .ok (.goto (-116), 3) := by decide +kernel
theorem dX0_layOut_161 : decode cX0_layOut 161 = .ok (.iinc 5 (-1), 3) := by decide +kernel
theorem dX0_layOut_164 : decode cX0_layOut 164 = .ok (.aload_n 0, 1) := by decide +kernel
theorem dX0_layOut_165 : decode cX0_layOut 165 = .ok (.iconst (-1), 1) := by decide +kernel
theorem dX0_layOut_166 : decode cX0_layOut 166 = .ok (.iload 5, 2) := by decide +kernel
theorem dX0_layOut_168 : decode cX0_layOut 168 = .ok (.aload_n 0, 1) := by decide +kernel
theorem dX0_layOut_169 : decode cX0_layOut 169 = .ok (.getfield 26, 3) := by decide +kernel
theorem dX0_layOut_172 : decode cX0_layOut 172 = .ok (.aload_n 2, 1) := by decide +kernel
theorem dX0_layOut_173 : decode cX0_layOut 173 = .ok (.iload 5, 2) := by decide +kernel
theorem dX0_layOut_175 : decode cX0_layOut 175 = .ok (.invokevirtual 90, 3) := by decide +kernel
theorem dX0_layOut_178 : decode cX0_layOut 178 = .ok (.invokevirtual 82, 3) := by decide +kernel
theorem dX0_layOut_181 : decode cX0_layOut 181 = .ok (.goto (-139), 3) := by decide +kernel
theorem dX0_layOut_184 : decode cX0_layOut 184 = .ok (.return_, 1) := by decide +kernel
theorem dX0_takesTwo_0 : decode cX0_takesTwo 0 = .ok (.aload_n 0, 1) := by decide +kernel
theorem dX0_takesTwo_1 : decode cX0_takesTwo 1 = .ok (.getfield 11, 3) := by decide +kernel
theorem dX0_takesTwo_4 : decode cX0_takesTwo 4 = .ok (.iload_n 2, 1) := by decide +kernel
theorem dX0_takesTwo_5 : decode cX0_takesTwo 5 = .ok (.aaload, 1) := by decide +kernel
theorem dX0_takesTwo_6 : decode cX0_takesTwo 6 = .ok (.iload 4, 2) := by decide +kernel
theorem dX0_takesTwo_8 : decode cX0_takesTwo 8 = .ok (.iaload, 1) := by decide +kernel
theorem dX0_takesTwo_9 : decode cX0_takesTwo 9 = .ok (.aload_n 0, 1) := by decide +kernel
theorem dX0_takesTwo_10 : decode cX0_takesTwo 10 = .ok (.getfield 11, 3) := by decide +kernel
theorem dX0_takesTwo_13 : decode cX0_takesTwo 13 = .ok (.iload_n 2, 1) := by decide +kernel
theorem dX0_takesTwo_14 : decode cX0_takesTwo 14 = .ok (.iconst 1, 1) := by decide +kernel
theorem dX0_takesTwo_15 : decode cX0_takesTwo 15 = .ok (.isub, 1) := by decide +kernel
theorem dX0_takesTwo_16 : decode cX0_takesTwo 16 = .ok (.aaload, 1) := by decide +kernel
theorem dX0_takesTwo_17 : decode cX0_takesTwo 17 = .ok (.iload 4, 2) := by decide +kernel
theorem dX0_takesTwo_19 : decode cX0_takesTwo 19 = .ok (.iconst 1, 1) := by decide +kernel
theorem dX0_takesTwo_20 : decode cX0_takesTwo 20 = .ok (.isub, 1) := by decide +kernel
theorem dX0_takesTwo_21 : decode cX0_takesTwo 21 = .ok (.iaload, 1) := by decide +kernel
theorem dX0_takesTwo_22 : decode cX0_takesTwo 22 = .ok (.aload_n 0, 1) := by decide +kernel
theorem dX0_takesTwo_23 : decode cX0_takesTwo 23 = .ok (.getfield 26, 3) := by decide +kernel
theorem dX0_takesTwo_26 : decode cX0_takesTwo 26 = .ok (.aload_n 1, 1) := by decide +kernel
theorem dX0_takesTwo_27 : decode cX0_takesTwo 27 = .ok (.iload_n 2, 1) := by decide +kernel
theorem dX0_takesTwo_28 : decode cX0_takesTwo 28 = .ok (.iconst 1, 1) := by decide +kernel
theorem dX0_takesTwo_29 : decode cX0_takesTwo 29 = .ok (.isub, 1) := by decide +kernel
theorem dX0_takesTwo_30 : decode cX0_takesTwo 30 = .ok (.aload_n 3, 1) := by decide +kernel
theorem dX0_takesTwo_31 : decode cX0_takesTwo 31 = .ok (.iload 4, 2) := by decide +kernel
theorem dX0_takesTwo_33 : decode cX0_takesTwo 33 = .ok (.iconst 1, 1) := by decide +kernel
theorem dX0_takesTwo_34 : decode cX0_takesTwo 34 = .ok (.isub, 1) := by decide +kernel
theorem dX0_takesTwo_35 : decode cX0_takesTwo 35 = .ok (.iload 5, 2) := by decide +kernel
theorem dX0_takesTwo_37 : decode cX0_takesTwo 37 = .ok (.invokevirtual 78, 3) := by decide +kernel
theorem dX0_takesTwo_40 : decode cX0_takesTwo 40 = .ok (.iadd, 1) := by decide +kernel
theorem dX0_takesTwo_41 : decode cX0_takesTwo 41 = .ok (.if_icmp .ne 7, 3) := by decide +kernel
theorem dX0_takesTwo_44 : decode cX0_takesTwo 44 = .ok (.iconst 1, 1) := by decide +kernel
theorem dX0_takesTwo_45 : decode cX0_takesTwo 45 = .ok (.goto 4, 3) := by decide +kernel
theorem dX0_takesTwo_48 : decode cX0_takesTwo 48 = .ok (.iconst 0, 1) := by decide +kernel
theorem dX0_takesTwo_49 : decode cX0_takesTwo 49 = .ok (.ireturn, 1) := by decide +kernel
theorem dX0_takesOne_0 : decode cX0_takesOne 0 = .ok (.aload_n 0, 1) := by decide +kernel
theorem dX0_takesOne_1 : decode cX0_takesOne 1 = .ok (.getfield 11, 3) := by decide +kernel
theorem dX0_takesOne_4 : decode cX0_takesOne 4 = .ok (.iload_n 2, 1) := by decide +kernel
theorem dX0_takesOne_5 : decode cX0_takesOne 5 = .ok (.aaload, 1) := by decide +kernel
theorem dX0_takesOne_6 : decode cX0_takesOne 6 = .ok (.iload_n 3, 1) := by decide +kernel
theorem dX0_takesOne_7 : decode cX0_takesOne 7 = .ok (.iaload, 1) := by decide +kernel
theorem dX0_takesOne_8 : decode cX0_takesOne 8 = .ok (.aload_n 0, 1) := by decide +kernel
theorem dX0_takesOne_9 : decode cX0_takesOne 9 = .ok (.getfield 11, 3) := by decide +kernel
theorem dX0_takesOne_12 : decode cX0_takesOne 12 = .ok (.iload_n 2, 1) := by decide +kernel
theorem dX0_takesOne_13 : decode cX0_takesOne 13 = .ok (.iconst 1, 1) := by decide +kernel
theorem dX0_takesOne_14 : decode cX0_takesOne 14 = .ok (.isub, 1) := by decide +kernel
theorem dX0_takesOne_15 : decode cX0_takesOne 15 = .ok (.aaload, 1) := by decide +kernel
theorem dX0_takesOne_16 : decode cX0_takesOne 16 = .ok (.iload_n 3, 1) := by decide +kernel
theorem dX0_takesOne_17 : decode cX0_takesOne 17 = .ok (.iaload, 1) := by decide +kernel
theorem dX0_takesOne_18 : decode cX0_takesOne 18 = .ok (.aload_n 0, 1) := by decide +kernel
theorem dX0_takesOne_19 : decode cX0_takesOne 19 = .ok (.getfield 26, 3) := by decide +kernel
theorem dX0_takesOne_22 : decode cX0_takesOne 22 = .ok (.aload_n 1, 1) := by decide +kernel
theorem dX0_takesOne_23 : decode cX0_takesOne 23 = .ok (.iload_n 2, 1) := by decide +kernel
theorem dX0_takesOne_24 : decode cX0_takesOne 24 = .ok (.iconst 1, 1) := by decide +kernel
theorem dX0_takesOne_25 : decode cX0_takesOne 25 = .ok (.isub, 1) := by decide +kernel
theorem dX0_takesOne_26 : decode cX0_takesOne 26 = .ok (.invokevirtual 90, 3) := by decide +kernel
theorem dX0_takesOne_29 : decode cX0_takesOne 29 = .ok (.iadd, 1) := by decide +kernel
theorem dX0_takesOne_30 : decode cX0_takesOne 30 = .ok (.if_icmp .ne 7, 3) := by decide +kernel
theorem dX0_takesOne_33 : decode cX0_takesOne 33 = .ok (.iconst 1, 1) := by decide +kernel
theorem dX0_takesOne_34 : decode cX0_takesOne 34 = .ok (.goto 4, 3) := by decide +kernel
theorem dX0_takesOne_37 : decode cX0_takesOne 37 = .ok (.iconst 0, 1) := by decide +kernel
theorem dX0_takesOne_38 : decode cX0_takesOne 38 = .ok (.ireturn, 1) := by decide +kernel
theorem dX0_put_0 : decode cX0_put 0 = .ok (.aload_n 0, 1) := by decide +kernel
theorem dX0_put_1 : decode cX0_put 1 = .ok (.getfield 16, 3) := by decide +kernel
theorem dX0_put_4 : decode cX0_put 4 = .ok (.aload_n 0, 1) := by decide +kernel
theorem dX0_put_5 : decode cX0_put 5 = .ok (.getfield 69, 3) := by decide +kernel
theorem dX0_put_8 : decode cX0_put 8 = .ok (.iload_n 1, 1) := by decide +kernel
theorem dX0_put_9 : decode cX0_put 9 = .ok (.iastore, 1) := by decide +kernel
theorem dX0_put_10 : decode cX0_put 10 = .ok (.aload_n 0, 1) := by decide +kernel
theorem dX0_put_11 : decode cX0_put 11 = .ok (.getfield 20, 3) := by decide +kernel
theorem dX0_put_14 : decode cX0_put 14 = .ok (.aload_n 0, 1) := by decide +kernel
theorem dX0_put_15 : decode cX0_put 15 = .ok (.getfield 69, 3) := by decide +kernel
theorem dX0_put_18 : decode cX0_put 18 = .ok (.iload_n 2, 1) := by decide +kernel
theorem dX0_put_19 : decode cX0_put 19 = .ok (.iastore, 1) := by decide +kernel
theorem dX0_put_20 : decode cX0_put 20 = .ok (.aload_n 0, 1) := by decide +kernel
theorem dX0_put_21 : decode cX0_put 21 = .ok (.getfield 23, 3) := by decide +kernel
theorem dX0_put_24 : decode cX0_put 24 = .ok (.aload_n 0, 1) := by decide +kernel
theorem dX0_put_25 : decode cX0_put 25 = .ok (.getfield 69, 3) := by decide +kernel
theorem dX0_put_28 : decode cX0_put 28 = .ok (.iload_n 3, 1) := by decide +kernel
theorem dX0_put_29 : decode cX0_put 29 = .ok (.iastore, 1) := by decide +kernel
theorem dX0_put_30 : decode cX0_put 30 = .ok (.aload_n 0, 1) := by decide +kernel
theorem dX0_put_31 : decode cX0_put 31 = .ok (.dup, 1) := by decide +kernel
theorem dX0_put_32 : decode cX0_put 32 = .ok (.getfield 69, 3) := by decide +kernel
theorem dX0_put_35 : decode cX0_put 35 = .ok (.iconst 1, 1) := by decide +kernel
theorem dX0_put_36 : decode cX0_put 36 = .ok (.iadd, 1) := by decide +kernel
theorem dX0_put_37 : decode cX0_put 37 = .ok (.putfield 69, 3) := by decide +kernel
theorem dX0_put_40 : decode cX0_put 40 = .ok (.return_, 1) := by decide +kernel
theorem dX0_toldOf_0 : decode cX0_toldOf 0 = .ok (.iload_n 1, 1) := by decide +kernel
theorem dX0_toldOf_1 : decode cX0_toldOf 1 = .ok (.ifCond .lt 11, 3) := by decide +kernel
theorem dX0_toldOf_4 : decode cX0_toldOf 4 = .ok (.iload_n 1, 1) := by decide +kernel
theorem dX0_toldOf_5 : decode cX0_toldOf 5 = .ok (.aload_n 0, 1) := by decide +kernel
theorem dX0_toldOf_6 : decode cX0_toldOf 6 = .ok (.getfield 69, 3) := by decide +kernel
theorem dX0_toldOf_9 : decode cX0_toldOf 9 = .ok (.if_icmp .lt 5, 3) := by decide +kernel
theorem dX0_toldOf_12 : decode cX0_toldOf 12 = .ok (.iconst (-1), 1) := by decide +kernel
theorem dX0_toldOf_13 : decode cX0_toldOf 13 = .ok (.ireturn, 1) := by decide +kernel
theorem dX0_toldOf_14 : decode cX0_toldOf 14 = .ok (.aload_n 0, 1) := by decide +kernel
theorem dX0_toldOf_15 : decode cX0_toldOf 15 = .ok (.getfield 69, 3) := by decide +kernel
theorem dX0_toldOf_18 : decode cX0_toldOf 18 = .ok (.iconst 1, 1) := by decide +kernel
theorem dX0_toldOf_19 : decode cX0_toldOf 19 = .ok (.isub, 1) := by decide +kernel
theorem dX0_toldOf_20 : decode cX0_toldOf 20 = .ok (.iload_n 1, 1) := by decide +kernel
theorem dX0_toldOf_21 : decode cX0_toldOf 21 = .ok (.isub, 1) := by decide +kernel
theorem dX0_toldOf_22 : decode cX0_toldOf 22 = .ok (.istore_n 3, 1) := by decide +kernel
theorem dX0_toldOf_23 : decode cX0_toldOf 23 = .ok (.iload_n 2, 1) := by decide +kernel
theorem dX0_toldOf_24 : decode cX0_toldOf 24 = .ok (.tableswitch 49 0 2 #[28, 35, 42], 28) := by decide +kernel
theorem dX0_toldOf_52 : decode cX0_toldOf 52 = .ok (.aload_n 0, 1) := by decide +kernel
theorem dX0_toldOf_53 : decode cX0_toldOf 53 = .ok (.getfield 16, 3) := by decide +kernel
theorem dX0_toldOf_56 : decode cX0_toldOf 56 = .ok (.iload_n 3, 1) := by decide +kernel
theorem dX0_toldOf_57 : decode cX0_toldOf 57 = .ok (.iaload, 1) := by decide +kernel
theorem dX0_toldOf_58 : decode cX0_toldOf 58 = .ok (.ireturn, 1) := by decide +kernel
theorem dX0_toldOf_59 : decode cX0_toldOf 59 = .ok (.aload_n 0, 1) := by decide +kernel
theorem dX0_toldOf_60 : decode cX0_toldOf 60 = .ok (.getfield 20, 3) := by decide +kernel
theorem dX0_toldOf_63 : decode cX0_toldOf 63 = .ok (.iload_n 3, 1) := by decide +kernel
theorem dX0_toldOf_64 : decode cX0_toldOf 64 = .ok (.iaload, 1) := by decide +kernel
theorem dX0_toldOf_65 : decode cX0_toldOf 65 = .ok (.ireturn, 1) := by decide +kernel
theorem dX0_toldOf_66 : decode cX0_toldOf 66 = .ok (.aload_n 0, 1) := by decide +kernel
theorem dX0_toldOf_67 : decode cX0_toldOf 67 = .ok (.getfield 23, 3) := by decide +kernel
theorem dX0_toldOf_70 : decode cX0_toldOf 70 = .ok (.iload_n 3, 1) := by decide +kernel
theorem dX0_toldOf_71 : decode cX0_toldOf 71 = .ok (.iaload, 1) := by decide +kernel
theorem dX0_toldOf_72 : decode cX0_toldOf 72 = .ok (.ireturn, 1) := by decide +kernel
theorem dX0_toldOf_73 : decode cX0_toldOf 73 = .ok (.iconst (-1), 1) := by decide +kernel
theorem dX0_toldOf_74 : decode cX0_toldOf 74 = .ok (.ireturn, 1) := by decide +kernel
theorem dX0_rise_0 : decode cX0_rise 0 = .ok (.iconst 0, 1) := by decide +kernel
theorem dX0_rise_1 : decode cX0_rise 1 = .ok (.istore_n 3, 1) := by decide +kernel
theorem dX0_rise_2 : decode cX0_rise 2 = .ok (.iconst 0, 1) := by decide +kernel
theorem dX0_rise_3 : decode cX0_rise 3 = .ok (.istore 4, 2) := by decide +kernel
theorem dX0_rise_5 : decode cX0_rise 5 = .ok (.iload 4, 2) := by decide +kernel
theorem dX0_rise_7 : decode cX0_rise 7 = .ok (.aload_n 0, 1) := by decide +kernel
theorem dX0_rise_8 : decode cX0_rise 8 = .ok (.getfield 69, 3) := by decide +kernel
theorem dX0_rise_11 : decode cX0_rise 11 = .ok (.if_icmp .ge 51, 3) := by decide +kernel
theorem dX0_rise_14 : decode cX0_rise 14 = .ok (.aload_n 0, 1) := by decide +kernel
theorem dX0_rise_15 : decode cX0_rise 15 = .ok (.aload_n 1, 1) := by decide +kernel
theorem dX0_rise_16 : decode cX0_rise 16 = .ok (.aload_n 2, 1) := by decide +kernel
theorem dX0_rise_17 : decode cX0_rise 17 = .ok (.iload 4, 2) := by decide +kernel
theorem dX0_rise_19 : decode cX0_rise 19 = .ok (.invokevirtual 94, 3) := by decide +kernel
theorem dX0_rise_22 : decode cX0_rise 22 = .ok (.ifCond .eq 34, 3) := by decide +kernel
theorem dX0_rise_25 : decode cX0_rise 25 = .ok (.iload_n 3, 1) := by decide +kernel
theorem dX0_rise_26 : decode cX0_rise 26 = .ok (.aload_n 1, 1) := by decide +kernel
theorem dX0_rise_27 : decode cX0_rise 27 = .ok (.aload_n 0, 1) := by decide +kernel
theorem dX0_rise_28 : decode cX0_rise 28 = .ok (.getfield 16, 3) := by decide +kernel
theorem dX0_rise_31 : decode cX0_rise 31 = .ok (.iload 4, 2) := by decide +kernel
theorem dX0_rise_33 : decode cX0_rise 33 = .ok (.iaload, 1) := by decide +kernel
theorem dX0_rise_34 : decode cX0_rise 34 = .ok (.invokevirtual 98, 3) := by decide +kernel
theorem dX0_rise_37 : decode cX0_rise 37 = .ok (.aload_n 0, 1) := by decide +kernel
theorem dX0_rise_38 : decode cX0_rise 38 = .ok (.getfield 66, 3) := by decide +kernel
theorem dX0_rise_41 : decode cX0_rise 41 = .ok (.iadd, 1) := by decide +kernel
theorem dX0_rise_42 : decode cX0_rise 42 = .ok (.aload_n 2, 1) := by decide +kernel
theorem dX0_rise_43 : decode cX0_rise 43 = .ok (.aload_n 0, 1) := by decide +kernel
theorem dX0_rise_44 : decode cX0_rise 44 = .ok (.getfield 20, 3) := by decide +kernel
theorem dX0_rise_47 : decode cX0_rise 47 = .ok (.iload 4, 2) := by decide +kernel
theorem dX0_rise_49 : decode cX0_rise 49 = .ok (.iaload, 1) := by decide +kernel
theorem dX0_rise_50 : decode cX0_rise 50 = .ok (.invokevirtual 98, 3) := by decide +kernel
theorem dX0_rise_53 : decode cX0_rise 53 = .ok (.isub, 1) := by decide +kernel
theorem dX0_rise_54 : decode cX0_rise 54 = .ok (.iadd, 1) := by decide +kernel
theorem dX0_rise_55 : decode cX0_rise 55 = .ok (.istore_n 3, 1) := by decide +kernel
theorem dX0_rise_56 : decode cX0_rise 56 = .ok (.iinc 4 1, 3) := by decide +kernel
theorem dX0_rise_59 : decode cX0_rise 59 = .ok (.goto (-54), 3) := by decide +kernel
theorem dX0_rise_62 : decode cX0_rise 62 = .ok (.iload_n 3, 1) := by decide +kernel
theorem dX0_rise_63 : decode cX0_rise 63 = .ok (.ireturn, 1) := by decide +kernel
theorem dX0_met_0 : decode cX0_met 0 = .ok (.iconst 0, 1) := by decide +kernel
theorem dX0_met_1 : decode cX0_met 1 = .ok (.istore_n 3, 1) := by decide +kernel
theorem dX0_met_2 : decode cX0_met 2 = .ok (.iconst 0, 1) := by decide +kernel
theorem dX0_met_3 : decode cX0_met 3 = .ok (.istore 4, 2) := by decide +kernel
theorem dX0_met_5 : decode cX0_met 5 = .ok (.iload 4, 2) := by decide +kernel
theorem dX0_met_7 : decode cX0_met 7 = .ok (.aload_n 0, 1) := by decide +kernel
theorem dX0_met_8 : decode cX0_met 8 = .ok (.getfield 69, 3) := by decide +kernel
theorem dX0_met_11 : decode cX0_met 11 = .ok (.if_icmp .ge 28, 3) := by decide +kernel
theorem dX0_met_14 : decode cX0_met 14 = .ok (.iload_n 3, 1) := by decide +kernel
theorem dX0_met_15 : decode cX0_met 15 = .ok (.aload_n 0, 1) := by decide +kernel
theorem dX0_met_16 : decode cX0_met 16 = .ok (.aload_n 1, 1) := by decide +kernel
theorem dX0_met_17 : decode cX0_met 17 = .ok (.aload_n 2, 1) := by decide +kernel
theorem dX0_met_18 : decode cX0_met 18 = .ok (.iload 4, 2) := by decide +kernel
theorem dX0_met_20 : decode cX0_met 20 = .ok (.invokevirtual 94, 3) := by decide +kernel
theorem dX0_met_23 : decode cX0_met 23 = .ok (.ifCond .eq 7, 3) := by decide +kernel
theorem dX0_met_26 : decode cX0_met 26 = .ok (.iconst 1, 1) := by decide +kernel
theorem dX0_met_27 : decode cX0_met 27 = .ok (.goto 4, 3) := by decide +kernel
theorem dX0_met_30 : decode cX0_met 30 = .ok (.iconst 0, 1) := by decide +kernel
theorem dX0_met_31 : decode cX0_met 31 = .ok (.iadd, 1) := by decide +kernel
theorem dX0_met_32 : decode cX0_met 32 = .ok (.istore_n 3, 1) := by decide +kernel
theorem dX0_met_33 : decode cX0_met 33 = .ok (.iinc 4 1, 3) := by decide +kernel
theorem dX0_met_36 : decode cX0_met 36 = .ok (.goto (-31), 3) := by decide +kernel
theorem dX0_met_39 : decode cX0_met 39 = .ok (.iload_n 3, 1) := by decide +kernel
theorem dX0_met_40 : decode cX0_met 40 = .ok (.ireturn, 1) := by decide +kernel
theorem dX0_isMeeting_0 : decode cX0_isMeeting 0 = .ok (.aload_n 1, 1) := by decide +kernel
theorem dX0_isMeeting_1 : decode cX0_isMeeting 1 = .ok (.aload_n 0, 1) := by decide +kernel
theorem dX0_isMeeting_2 : decode cX0_isMeeting 2 = .ok (.getfield 16, 3) := by decide +kernel
theorem dX0_isMeeting_5 : decode cX0_isMeeting 5 = .ok (.iload_n 3, 1) := by decide +kernel
theorem dX0_isMeeting_6 : decode cX0_isMeeting 6 = .ok (.iaload, 1) := by decide +kernel
theorem dX0_isMeeting_7 : decode cX0_isMeeting 7 = .ok (.invokevirtual 98, 3) := by decide +kernel
theorem dX0_isMeeting_10 : decode cX0_isMeeting 10 = .ok (.iconst (-1), 1) := by decide +kernel
theorem dX0_isMeeting_11 : decode cX0_isMeeting 11 = .ok (.if_icmp .eq 21, 3) := by decide +kernel
theorem dX0_isMeeting_14 : decode cX0_isMeeting 14 = .ok (.aload_n 2, 1) := by decide +kernel
theorem dX0_isMeeting_15 : decode cX0_isMeeting 15 = .ok (.aload_n 0, 1) := by decide +kernel
theorem dX0_isMeeting_16 : decode cX0_isMeeting 16 = .ok (.getfield 20, 3) := by decide +kernel
theorem dX0_isMeeting_19 : decode cX0_isMeeting 19 = .ok (.iload_n 3, 1) := by decide +kernel
theorem dX0_isMeeting_20 : decode cX0_isMeeting 20 = .ok (.iaload, 1) := by decide +kernel
theorem dX0_isMeeting_21 : decode cX0_isMeeting 21 = .ok (.invokevirtual 98, 3) := by decide +kernel
theorem dX0_isMeeting_24 : decode cX0_isMeeting 24 = .ok (.iconst (-1), 1) := by decide +kernel
theorem dX0_isMeeting_25 : decode cX0_isMeeting 25 = .ok (.if_icmp .eq 7, 3) := by decide +kernel
theorem dX0_isMeeting_28 : decode cX0_isMeeting 28 = .ok (.iconst 1, 1) := by decide +kernel
theorem dX0_isMeeting_29 : decode cX0_isMeeting 29 = .ok (.goto 4, 3) := by decide +kernel
theorem dX0_isMeeting_32 : decode cX0_isMeeting 32 = .ok (.iconst 0, 1) := by decide +kernel
theorem dX0_isMeeting_33 : decode cX0_isMeeting 33 = .ok (.ireturn, 1) := by decide +kernel
theorem dX1_init_0 : decode cX1_init 0 = .ok (.aload_n 0, 1) := by decide +kernel
theorem dX1_init_1 : decode cX1_init 1 = .ok (.invokespecial 1, 3) := by decide +kernel
theorem dX1_init_4 : decode cX1_init 4 = .ok (.aload_n 0, 1) := by decide +kernel
theorem dX1_init_5 : decode cX1_init 5 = .ok (.iload_n 1, 1) := by decide +kernel
theorem dX1_init_6 : decode cX1_init 6 = .ok (.putfield 7, 3) := by decide +kernel
theorem dX1_init_9 : decode cX1_init 9 = .ok (.aload_n 0, 1) := by decide +kernel
theorem dX1_init_10 : decode cX1_init 10 = .ok (.iload_n 2, 1) := by decide +kernel
theorem dX1_init_11 : decode cX1_init 11 = .ok (.putfield 13, 3) := by decide +kernel
theorem dX1_init_14 : decode cX1_init 14 = .ok (.aload_n 0, 1) := by decide +kernel
theorem dX1_init_15 : decode cX1_init 15 = .ok (.iload_n 3, 1) := by decide +kernel
theorem dX1_init_16 : decode cX1_init 16 = .ok (.putfield 16, 3) := by decide +kernel
theorem dX1_init_19 : decode cX1_init 19 = .ok (.aload_n 0, 1) := by decide +kernel
theorem dX1_init_20 : decode cX1_init 20 = .ok (.iload 4, 2) := by decide +kernel
theorem dX1_init_22 : decode cX1_init 22 = .ok (.putfield 19, 3) := by decide +kernel
theorem dX1_init_25 : decode cX1_init 25 = .ok (.return_, 1) := by decide +kernel
theorem dX2_init_0 : decode cX2_init 0 = .ok (.aload_n 0, 1) := by decide +kernel
theorem dX2_init_1 : decode cX2_init 1 = .ok (.invokespecial 3, 3) := by decide +kernel
theorem dX2_init_4 : decode cX2_init 4 = .ok (.aload_n 0, 1) := by decide +kernel
theorem dX2_init_5 : decode cX2_init 5 = .ok (.sipush 400, 3) := by decide +kernel
theorem dX2_init_8 : decode cX2_init 8 = .ok (.newarray .boolean, 2) := by decide +kernel
theorem dX2_init_10 : decode cX2_init 10 = .ok (.putfield 9, 3) := by decide +kernel
theorem dX2_init_13 : decode cX2_init 13 = .ok (.aload_n 0, 1) := by decide +kernel
theorem dX2_init_14 : decode cX2_init 14 = .ok (.sipush 400, 3) := by decide +kernel
theorem dX2_init_17 : decode cX2_init 17 = .ok (.newarray .int, 2) := by decide +kernel
theorem dX2_init_19 : decode cX2_init 19 = .ok (.putfield 15, 3) := by decide +kernel
theorem dX2_init_22 : decode cX2_init 22 = .ok (.aload_n 0, 1) := by decide +kernel
theorem dX2_init_23 : decode cX2_init 23 = .ok (.sipush 400, 3) := by decide +kernel
theorem dX2_init_26 : decode cX2_init 26 = .ok (.newarray .int, 2) := by decide +kernel
theorem dX2_init_28 : decode cX2_init 28 = .ok (.putfield 19, 3) := by decide +kernel
theorem dX2_init_31 : decode cX2_init 31 = .ok (.aload_n 0, 1) := by decide +kernel
theorem dX2_init_32 : decode cX2_init 32 = .ok (.aload_n 1, 1) := by decide +kernel
theorem dX2_init_33 : decode cX2_init 33 = .ok (.putfield 22, 3) := by decide +kernel
theorem dX2_init_36 : decode cX2_init 36 = .ok (.return_, 1) := by decide +kernel
theorem dX2_apart_0 : decode cX2_apart 0 = .ok (.aload_n 1, 1) := by decide +kernel
theorem dX2_apart_1 : decode cX2_apart 1 = .ok (.getfield 26, 3) := by decide +kernel
theorem dX2_apart_4 : decode cX2_apart 4 = .ok (.aload_n 2, 1) := by decide +kernel
theorem dX2_apart_5 : decode cX2_apart 5 = .ok (.getfield 26, 3) := by decide +kernel
theorem dX2_apart_8 : decode cX2_apart 8 = .ok (.if_icmp .gt 17, 3) := by decide +kernel
theorem dX2_apart_11 : decode cX2_apart 11 = .ok (.aload_n 0, 1) := by decide +kernel
theorem dX2_apart_12 : decode cX2_apart 12 = .ok (.getfield 15, 3) := by decide +kernel
theorem dX2_apart_15 : decode cX2_apart 15 = .ok (.aload_n 0, 1) := by decide +kernel
theorem dX2_apart_16 : decode cX2_apart 16 = .ok (.aload_n 1, 1) := by decide +kernel
theorem dX2_apart_17 : decode cX2_apart 17 = .ok (.aload_n 2, 1) := by decide +kernel
theorem dX2_apart_18 : decode cX2_apart 18 = .ok (.invokevirtual 32, 3) := by decide +kernel
theorem dX2_apart_21 : decode cX2_apart 21 = .ok (.iaload, 1) := by decide +kernel
theorem dX2_apart_22 : decode cX2_apart 22 = .ok (.goto 14, 3) := by decide +kernel
theorem dX2_apart_25 : decode cX2_apart 25 = .ok (.aload_n 0, 1) := by decide +kernel
theorem dX2_apart_26 : decode cX2_apart 26 = .ok (.getfield 15, 3) := by decide +kernel
theorem dX2_apart_29 : decode cX2_apart 29 = .ok (.aload_n 0, 1) := by decide +kernel
theorem dX2_apart_30 : decode cX2_apart 30 = .ok (.aload_n 2, 1) := by decide +kernel
theorem dX2_apart_31 : decode cX2_apart 31 = .ok (.aload_n 1, 1) := by decide +kernel
theorem dX2_apart_32 : decode cX2_apart 32 = .ok (.invokevirtual 32, 3) := by decide +kernel
theorem dX2_apart_35 : decode cX2_apart 35 = .ok (.iaload, 1) := by decide +kernel
theorem dX2_apart_36 : decode cX2_apart 36 = .ok (.ireturn, 1) := by decide +kernel
theorem dX2_toldKey_0 : decode cX2_toldKey 0 = .ok (.aload_n 0, 1) := by decide +kernel
theorem dX2_toldKey_1 : decode cX2_toldKey 1 = .ok (.getfield 19, 3) := by decide +kernel
theorem dX2_toldKey_4 : decode cX2_toldKey 4 = .ok (.aload_n 0, 1) := by decide +kernel
theorem dX2_toldKey_5 : decode cX2_toldKey 5 = .ok (.aload_n 1, 1) := by decide +kernel
theorem dX2_toldKey_6 : decode cX2_toldKey 6 = .ok (.aload_n 2, 1) := by decide +kernel
theorem dX2_toldKey_7 : decode cX2_toldKey 7 = .ok (.invokevirtual 32, 3) := by decide +kernel
theorem dX2_toldKey_10 : decode cX2_toldKey 10 = .ok (.iaload, 1) := by decide +kernel
theorem dX2_toldKey_11 : decode cX2_toldKey 11 = .ok (.ireturn, 1) := by decide +kernel
theorem dX2_forget_0 : decode cX2_forget 0 = .ok (.iconst 0, 1) := by decide +kernel
theorem dX2_forget_1 : decode cX2_forget 1 = .ok (.istore_n 2, 1) := by decide +kernel
theorem dX2_forget_2 : decode cX2_forget 2 = .ok (.iload_n 2, 1) := by decide +kernel
theorem dX2_forget_3 : decode cX2_forget 3 = .ok (.bipush 20, 2) := by decide +kernel
theorem dX2_forget_5 : decode cX2_forget 5 = .ok (.if_icmp .ge 39, 3) := by decide +kernel
theorem dX2_forget_8 : decode cX2_forget 8 = .ok (.aload_n 0, 1) := by decide +kernel
theorem dX2_forget_9 : decode cX2_forget 9 = .ok (.getfield 9, 3) := by decide +kernel
theorem dX2_forget_12 : decode cX2_forget 12 = .ok (.aload_n 1, 1) := by decide +kernel
theorem dX2_forget_13 : decode cX2_forget 13 = .ok (.getfield 26, 3) := by decide +kernel
theorem dX2_forget_16 : decode cX2_forget 16 = .ok (.bipush 20, 2) := by decide +kernel
theorem dX2_forget_18 : decode cX2_forget 18 = .ok (.imul, 1) := by decide +kernel
theorem dX2_forget_19 : decode cX2_forget 19 = .ok (.iload_n 2, 1) := by decide +kernel
theorem dX2_forget_20 : decode cX2_forget 20 = .ok (.iadd, 1) := by decide +kernel
theorem dX2_forget_21 : decode cX2_forget 21 = .ok (.iconst 0, 1) := by decide +kernel
theorem dX2_forget_22 : decode cX2_forget 22 = .ok (.bastore, 1) := by decide +kernel
theorem dX2_forget_23 : decode cX2_forget 23 = .ok (.aload_n 0, 1) := by decide +kernel
theorem dX2_forget_24 : decode cX2_forget 24 = .ok (.getfield 9, 3) := by decide +kernel
theorem dX2_forget_27 : decode cX2_forget 27 = .ok (.iload_n 2, 1) := by decide +kernel
theorem dX2_forget_28 : decode cX2_forget 28 = .ok (.bipush 20, 2) := by decide +kernel
theorem dX2_forget_30 : decode cX2_forget 30 = .ok (.imul, 1) := by decide +kernel
theorem dX2_forget_31 : decode cX2_forget 31 = .ok (.aload_n 1, 1) := by decide +kernel
theorem dX2_forget_32 : decode cX2_forget 32 = .ok (.getfield 26, 3) := by decide +kernel
theorem dX2_forget_35 : decode cX2_forget 35 = .ok (.iadd, 1) := by decide +kernel
theorem dX2_forget_36 : decode cX2_forget 36 = .ok (.iconst 0, 1) := by decide +kernel
theorem dX2_forget_37 : decode cX2_forget 37 = .ok (.bastore, 1) := by decide +kernel
theorem dX2_forget_38 : decode cX2_forget 38 = .ok (.iinc 2 1, 3) := by decide +kernel
theorem dX2_forget_41 : decode cX2_forget 41 = .ok (.goto (-39), 3) := by decide +kernel
theorem dX2_forget_44 : decode cX2_forget 44 = .ok (.return_, 1) := by decide +kernel
theorem dX2_forgetAll_0 : decode cX2_forgetAll 0 = .ok (.iconst 0, 1) := by decide +kernel
theorem dX2_forgetAll_1 : decode cX2_forgetAll 1 = .ok (.istore_n 1, 1) := by decide +kernel
theorem dX2_forgetAll_2 : decode cX2_forgetAll 2 = .ok (.iload_n 1, 1) := by decide +kernel
theorem dX2_forgetAll_3 : decode cX2_forgetAll 3 = .ok (.aload_n 0, 1) := by decide +kernel
theorem dX2_forgetAll_4 : decode cX2_forgetAll 4 = .ok (.getfield 9, 3) := by decide +kernel
theorem dX2_forgetAll_7 : decode cX2_forgetAll 7 = .ok (.arraylength, 1) := by decide +kernel
theorem dX2_forgetAll_8 : decode cX2_forgetAll 8 = .ok (.if_icmp .ge 16, 3) := by decide +kernel
theorem dX2_forgetAll_11 : decode cX2_forgetAll 11 = .ok (.aload_n 0, 1) := by decide +kernel
theorem dX2_forgetAll_12 : decode cX2_forgetAll 12 = .ok (.getfield 9, 3) := by decide +kernel
theorem dX2_forgetAll_15 : decode cX2_forgetAll 15 = .ok (.iload_n 1, 1) := by decide +kernel
theorem dX2_forgetAll_16 : decode cX2_forgetAll 16 = .ok (.iconst 0, 1) := by decide +kernel
theorem dX2_forgetAll_17 : decode cX2_forgetAll 17 = .ok (.bastore, 1) := by decide +kernel
theorem dX2_forgetAll_18 : decode cX2_forgetAll 18 = .ok (.iinc 1 1, 3) := by decide +kernel
theorem dX2_forgetAll_21 : decode cX2_forgetAll 21 = .ok (.goto (-19), 3) := by decide +kernel
theorem dX2_forgetAll_24 : decode cX2_forgetAll 24 = .ok (.return_, 1) := by decide +kernel
theorem dX2_learn_0 : decode cX2_learn 0 = .ok (.aload_n 1, 1) := by decide +kernel
theorem dX2_learn_1 : decode cX2_learn 1 = .ok (.getfield 26, 3) := by decide +kernel
theorem dX2_learn_4 : decode cX2_learn 4 = .ok (.bipush 20, 2) := by decide +kernel
theorem dX2_learn_6 : decode cX2_learn 6 = .ok (.imul, 1) := by decide +kernel
theorem dX2_learn_7 : decode cX2_learn 7 = .ok (.aload_n 2, 1) := by decide +kernel
theorem dX2_learn_8 : decode cX2_learn 8 = .ok (.getfield 26, 3) := by decide +kernel
theorem dX2_learn_11 : decode cX2_learn 11 = .ok (.iadd, 1) := by decide +kernel
theorem dX2_learn_12 : decode cX2_learn 12 = .ok (.istore_n 3, 1) := by decide +kernel
theorem dX2_learn_13 : decode cX2_learn 13 = .ok (.aload_n 0, 1) := by decide +kernel
theorem dX2_learn_14 : decode cX2_learn 14 = .ok (.getfield 9, 3) := by decide +kernel
theorem dX2_learn_17 : decode cX2_learn 17 = .ok (.iload_n 3, 1) := by decide +kernel
theorem dX2_learn_18 : decode cX2_learn 18 = .ok (.baload, 1) := by decide +kernel
theorem dX2_learn_19 : decode cX2_learn 19 = .ok (.ifCond .eq 5, 3) := by decide +kernel
theorem dX2_learn_22 : decode cX2_learn 22 = .ok (.iload_n 3, 1) := by decide +kernel
theorem dX2_learn_23 : decode cX2_learn 23 = .ok (.ireturn, 1) := by decide +kernel
theorem dX2_learn_24 : decode cX2_learn 24 = .ok (.ldc 36, 2) := by decide +kernel
theorem dX2_learn_26 : decode cX2_learn 26 = .ok (.istore 4, 2) := by decide +kernel
theorem dX2_learn_28 : decode cX2_learn 28 = .ok (.iconst 0, 1) := by decide +kernel
theorem dX2_learn_29 : decode cX2_learn 29 = .ok (.istore 5, 2) := by decide +kernel
theorem dX2_learn_31 : decode cX2_learn 31 = .ok (.iload 5, 2) := by decide +kernel
theorem dX2_learn_33 : decode cX2_learn 33 = .ok (.bipush 24, 2) := by decide +kernel
theorem dX2_learn_35 : decode cX2_learn 35 = .ok (.if_icmp .gt 77, 3) := by decide +kernel
theorem dX2_learn_38 : decode cX2_learn 38 = .ok (.iload 4, 2) := by decide +kernel
theorem dX2_learn_40 : decode cX2_learn 40 = .ok (.ifCond .le 72, 3) := by decide +kernel
theorem dX2_learn_43 : decode cX2_learn 43 = .ok (.iload 5, 2) := by decide +kernel
theorem dX2_learn_45 : decode cX2_learn 45 = .ok (.iconst 2, 1) := by decide +kernel
theorem dX2_learn_46 : decode cX2_learn 46 = .ok (.irem, 1) := by decide +kernel
theorem dX2_learn_47 : decode cX2_learn 47 = .ok (.ifCond .ne 10, 3) := by decide +kernel
theorem dX2_learn_50 : decode cX2_learn 50 = .ok (.iload 5, 2) := by decide +kernel
theorem dX2_learn_52 : decode cX2_learn 52 = .ok (.iconst 2, 1) := by decide +kernel
theorem dX2_learn_53 : decode cX2_learn 53 = .ok (.idiv, 1) := by decide +kernel
theorem dX2_learn_54 : decode cX2_learn 54 = .ok (.goto 10, 3) := by decide +kernel
theorem dX2_learn_57 : decode cX2_learn 57 = .ok (.iload 5, 2) := by decide +kernel
theorem dX2_learn_59 : decode cX2_learn 59 = .ok (.iconst 1, 1) := by decide +kernel
theorem dX2_learn_60 : decode cX2_learn 60 = .ok (.iadd, 1) := by decide +kernel
theorem dX2_learn_61 : decode cX2_learn 61 = .ok (.ineg, 1) := by decide +kernel
theorem dX2_learn_62 : decode cX2_learn 62 = .ok (.iconst 2, 1) := by decide +kernel
theorem dX2_learn_63 : decode cX2_learn 63 = .ok (.idiv, 1) := by decide +kernel
theorem dX2_learn_64 : decode cX2_learn 64 = .ok (.istore 6, 2) := by decide +kernel
theorem dX2_learn_66 : decode cX2_learn 66 = .ok (.aload_n 0, 1) := by decide +kernel
theorem dX2_learn_67 : decode cX2_learn 67 = .ok (.getfield 22, 3) := by decide +kernel
theorem dX2_learn_70 : decode cX2_learn 70 = .ok (.aload_n 1, 1) := by decide +kernel
theorem dX2_learn_71 : decode cX2_learn 71 = .ok (.getfield 37, 3) := by decide +kernel
theorem dX2_learn_74 : decode cX2_learn 74 = .ok (.aload_n 2, 1) := by decide +kernel
theorem dX2_learn_75 : decode cX2_learn 75 = .ok (.getfield 37, 3) := by decide +kernel
theorem dX2_learn_78 : decode cX2_learn 78 = .ok (.iload 6, 2) := by decide +kernel
theorem dX2_learn_80 : decode cX2_learn 80 = .ok (.iload 4, 2) := by decide +kernel
theorem dX2_learn_82 : decode cX2_learn 82 = .ok (.invokevirtual 41, 3) := by decide +kernel
theorem dX2_learn_85 : decode cX2_learn 85 = .ok (.istore 7, 2) := by decide +kernel
theorem dX2_learn_87 : decode cX2_learn 87 = .ok (.iload 7, 2) := by decide +kernel
theorem dX2_learn_89 : decode cX2_learn 89 = .ok (.iload 4, 2) := by decide +kernel
theorem dX2_learn_91 : decode cX2_learn 91 = .ok (.if_icmp .ge 15, 3) := by decide +kernel
theorem dX2_learn_94 : decode cX2_learn 94 = .ok (.iload 7, 2) := by decide +kernel
theorem dX2_learn_96 : decode cX2_learn 96 = .ok (.istore 4, 2) := by decide +kernel
theorem dX2_learn_98 : decode cX2_learn 98 = .ok (.aload_n 0, 1) := by decide +kernel
theorem dX2_learn_99 : decode cX2_learn 99 = .ok (.getfield 19, 3) := by decide +kernel
theorem dX2_learn_102 : decode cX2_learn 102 = .ok (.iload_n 3, 1) := by decide +kernel
theorem dX2_learn_103 : decode cX2_learn 103 = .ok (.iload 6, 2) := by decide +kernel
theorem dX2_learn_105 : decode cX2_learn 105 = .ok (.iastore, 1) := by decide +kernel
theorem dX2_learn_106 : decode cX2_learn 106 = .ok (.iinc 5 1, 3) := by decide +kernel
theorem dX2_learn_109 : decode cX2_learn 109 = .ok (.goto (-78), 3) := by decide +kernel
theorem dX2_learn_112 : decode cX2_learn 112 = .ok (.aload_n 0, 1) := by decide +kernel
theorem dX2_learn_113 : decode cX2_learn 113 = .ok (.getfield 15, 3) := by decide +kernel
theorem dX2_learn_116 : decode cX2_learn 116 = .ok (.iload_n 3, 1) := by decide +kernel
theorem dX2_learn_117 : decode cX2_learn 117 = .ok (.iload 4, 2) := by decide +kernel
theorem dX2_learn_119 : decode cX2_learn 119 = .ok (.iastore, 1) := by decide +kernel
theorem dX2_learn_120 : decode cX2_learn 120 = .ok (.aload_n 0, 1) := by decide +kernel
theorem dX2_learn_121 : decode cX2_learn 121 = .ok (.getfield 9, 3) := by decide +kernel
theorem dX2_learn_124 : decode cX2_learn 124 = .ok (.iload_n 3, 1) := by decide +kernel
theorem dX2_learn_125 : decode cX2_learn 125 = .ok (.iconst 1, 1) := by decide +kernel
theorem dX2_learn_126 : decode cX2_learn 126 = .ok (.bastore, 1) := by decide +kernel
theorem dX2_learn_127 : decode cX2_learn 127 = .ok (.iload_n 3, 1) := by decide +kernel
theorem dX2_learn_128 : decode cX2_learn 128 = .ok (.ireturn, 1) := by decide +kernel
theorem dX3_init_0 : decode cX3_init 0 = .ok (.aload_n 0, 1) := by decide +kernel
theorem dX3_init_1 : decode cX3_init 1 = .ok (.invokespecial 1, 3) := by decide +kernel
theorem dX3_init_4 : decode cX3_init 4 = .ok (.aload_n 0, 1) := by decide +kernel
theorem dX3_init_5 : decode cX3_init 5 = .ok (.aload_n 1, 1) := by decide +kernel
theorem dX3_init_6 : decode cX3_init 6 = .ok (.putfield 7, 3) := by decide +kernel
theorem dX3_init_9 : decode cX3_init 9 = .ok (.aload_n 0, 1) := by decide +kernel
theorem dX3_init_10 : decode cX3_init 10 = .ok (.aload_n 2, 1) := by decide +kernel
theorem dX3_init_11 : decode cX3_init 11 = .ok (.putfield 13, 3) := by decide +kernel
theorem dX3_init_14 : decode cX3_init 14 = .ok (.return_, 1) := by decide +kernel
theorem dX3_joins_0 : decode cX3_joins 0 = .ok (.aload_n 0, 1) := by decide +kernel
theorem dX3_joins_1 : decode cX3_joins 1 = .ok (.getfield 7, 3) := by decide +kernel
theorem dX3_joins_4 : decode cX3_joins 4 = .ok (.aload_n 1, 1) := by decide +kernel
theorem dX3_joins_5 : decode cX3_joins 5 = .ok (.if_acmp .ne 11, 3) := by decide +kernel
theorem dX3_joins_8 : decode cX3_joins 8 = .ok (.aload_n 0, 1) := by decide +kernel
theorem dX3_joins_9 : decode cX3_joins 9 = .ok (.getfield 13, 3) := by decide +kernel
theorem dX3_joins_12 : decode cX3_joins 12 = .ok (.aload_n 2, 1) := by decide +kernel
theorem dX3_joins_13 : decode cX3_joins 13 = .ok (.if_acmp .eq 19, 3) := by decide +kernel
theorem dX3_joins_16 : decode cX3_joins 16 = .ok (.aload_n 0, 1) := by decide +kernel
theorem dX3_joins_17 : decode cX3_joins 17 = .ok (.getfield 7, 3) := by decide +kernel
theorem dX3_joins_20 : decode cX3_joins 20 = .ok (.aload_n 2, 1) := by decide +kernel
theorem dX3_joins_21 : decode cX3_joins 21 = .ok (.if_acmp .ne 15, 3) := by decide +kernel
theorem dX3_joins_24 : decode cX3_joins 24 = .ok (.aload_n 0, 1) := by decide +kernel
theorem dX3_joins_25 : decode cX3_joins 25 = .ok (.getfield 13, 3) := by decide +kernel
theorem dX3_joins_28 : decode cX3_joins 28 = .ok (.aload_n 1, 1) := by decide +kernel
theorem dX3_joins_29 : decode cX3_joins 29 = .ok (.if_acmp .ne 7, 3) := by decide +kernel
theorem dX3_joins_32 : decode cX3_joins 32 = .ok (.iconst 1, 1) := by decide +kernel
theorem dX3_joins_33 : decode cX3_joins 33 = .ok (.goto 4, 3) := by decide +kernel
theorem dX3_joins_36 : decode cX3_joins 36 = .ok (.iconst 0, 1) := by decide +kernel
theorem dX3_joins_37 : decode cX3_joins 37 = .ok (.ireturn, 1) := by decide +kernel
theorem dX3_sheetOf_0 : decode cX3_sheetOf 0 = .ok (.aload_n 0, 1) := by decide +kernel
theorem dX3_sheetOf_1 : decode cX3_sheetOf 1 = .ok (.getfield 7, 3) := by decide +kernel
theorem dX3_sheetOf_4 : decode cX3_sheetOf 4 = .ok (.getfield 16, 3) := by decide +kernel
theorem dX3_sheetOf_7 : decode cX3_sheetOf 7 = .ok (.iload_n 1, 1) := by decide +kernel
theorem dX3_sheetOf_8 : decode cX3_sheetOf 8 = .ok (.if_icmp .ne 8, 3) := by decide +kernel
theorem dX3_sheetOf_11 : decode cX3_sheetOf 11 = .ok (.aload_n 0, 1) := by decide +kernel
theorem dX3_sheetOf_12 : decode cX3_sheetOf 12 = .ok (.getfield 7, 3) := by decide +kernel
theorem dX3_sheetOf_15 : decode cX3_sheetOf 15 = .ok (.areturn, 1) := by decide +kernel
theorem dX3_sheetOf_16 : decode cX3_sheetOf 16 = .ok (.aload_n 0, 1) := by decide +kernel
theorem dX3_sheetOf_17 : decode cX3_sheetOf 17 = .ok (.getfield 13, 3) := by decide +kernel
theorem dX3_sheetOf_20 : decode cX3_sheetOf 20 = .ok (.getfield 16, 3) := by decide +kernel
theorem dX3_sheetOf_23 : decode cX3_sheetOf 23 = .ok (.iload_n 1, 1) := by decide +kernel
theorem dX3_sheetOf_24 : decode cX3_sheetOf 24 = .ok (.if_icmp .ne 10, 3) := by decide +kernel
theorem dX3_sheetOf_27 : decode cX3_sheetOf 27 = .ok (.aload_n 0, 1) := by decide +kernel
theorem dX3_sheetOf_28 : decode cX3_sheetOf 28 = .ok (.getfield 13, 3) := by decide +kernel
theorem dX3_sheetOf_31 : decode cX3_sheetOf 31 = .ok (.goto 4, 3) := by decide +kernel
theorem dX3_sheetOf_34 : decode cX3_sheetOf 34 = .ok (.aconst_null, 1) := by decide +kernel
theorem dX3_sheetOf_35 : decode cX3_sheetOf 35 = .ok (.areturn, 1) := by decide +kernel
theorem dX4_init_0 : decode cX4_init 0 = .ok (.aload_n 0, 1) := by decide +kernel
theorem dX4_init_1 : decode cX4_init 1 = .ok (.invokespecial 3, 3) := by decide +kernel
theorem dX4_init_4 : decode cX4_init 4 = .ok (.aload_n 0, 1) := by decide +kernel
theorem dX4_init_5 : decode cX4_init 5 = .ok (.iconst 5, 1) := by decide +kernel
theorem dX4_init_6 : decode cX4_init 6 = .ok (.newarray .int, 2) := by decide +kernel
theorem dX4_init_8 : decode cX4_init 8 = .ok (.dup, 1) := by decide +kernel
theorem dX4_init_9 : decode cX4_init 9 = .ok (.iconst 0, 1) := by decide +kernel
theorem dX4_init_10 : decode cX4_init 10 = .ok (.iconst 2, 1) := by decide +kernel
theorem dX4_init_11 : decode cX4_init 11 = .ok (.iastore, 1) := by decide +kernel
theorem dX4_init_12 : decode cX4_init 12 = .ok (.dup, 1) := by decide +kernel
theorem dX4_init_13 : decode cX4_init 13 = .ok (.iconst 1, 1) := by decide +kernel
theorem dX4_init_14 : decode cX4_init 14 = .ok (.bipush 8, 2) := by decide +kernel
theorem dX4_init_16 : decode cX4_init 16 = .ok (.iastore, 1) := by decide +kernel
theorem dX4_init_17 : decode cX4_init 17 = .ok (.dup, 1) := by decide +kernel
theorem dX4_init_18 : decode cX4_init 18 = .ok (.iconst 2, 1) := by decide +kernel
theorem dX4_init_19 : decode cX4_init 19 = .ok (.iconst 1, 1) := by decide +kernel
theorem dX4_init_20 : decode cX4_init 20 = .ok (.iastore, 1) := by decide +kernel
theorem dX4_init_21 : decode cX4_init 21 = .ok (.dup, 1) := by decide +kernel
theorem dX4_init_22 : decode cX4_init 22 = .ok (.iconst 3, 1) := by decide +kernel
theorem dX4_init_23 : decode cX4_init 23 = .ok (.iconst 5, 1) := by decide +kernel
theorem dX4_init_24 : decode cX4_init 24 = .ok (.iastore, 1) := by decide +kernel
theorem dX4_init_25 : decode cX4_init 25 = .ok (.dup, 1) := by decide +kernel
theorem dX4_init_26 : decode cX4_init 26 = .ok (.iconst 4, 1) := by decide +kernel
theorem dX4_init_27 : decode cX4_init 27 = .ok (.bipush 30, 2) := by decide +kernel
theorem dX4_init_29 : decode cX4_init 29 = .ok (.iastore, 1) := by decide +kernel
theorem dX4_init_30 : decode cX4_init 30 = .ok (.putfield 9, 3) := by decide +kernel
theorem dX4_init_33 : decode cX4_init 33 = .ok (.return_, 1) := by decide +kernel
theorem dX4_set_0 : decode cX4_set 0 = .ok (.iload_n 1, 1) := by decide +kernel
theorem dX4_set_1 : decode cX4_set 1 = .ok (.ifCond .lt 20, 3) := by decide +kernel
theorem dX4_set_4 : decode cX4_set 4 = .ok (.iload_n 1, 1) := by decide +kernel
theorem dX4_set_5 : decode cX4_set 5 = .ok (.getstatic 15, 3) := by decide +kernel
theorem dX4_set_8 : decode cX4_set 8 = .ok (.arraylength, 1) := by decide +kernel
theorem dX4_set_9 : decode cX4_set 9 = .ok (.if_icmp .ge 12, 3) := by decide +kernel
theorem dX4_set_12 : decode cX4_set 12 = .ok (.iload_n 1, 1) := by decide +kernel
theorem dX4_set_13 : decode cX4_set 13 = .ok (.aload_n 0, 1) := by decide +kernel
theorem dX4_set_14 : decode cX4_set 14 = .ok (.getfield 9, 3) := by decide +kernel
theorem dX4_set_17 : decode cX4_set 17 = .ok (.arraylength, 1) := by decide +kernel
theorem dX4_set_18 : decode cX4_set 18 = .ok (.if_icmp .lt 5, 3) := by decide +kernel
theorem dX4_set_21 : decode cX4_set 21 = .ok (.iconst 0, 1) := by decide +kernel
theorem dX4_set_22 : decode cX4_set 22 = .ok (.ireturn, 1) := by decide +kernel
theorem dX4_set_23 : decode cX4_set 23 = .ok (.iload_n 2, 1) := by decide +kernel
theorem dX4_set_24 : decode cX4_set 24 = .ok (.getstatic 15, 3) := by decide +kernel
theorem dX4_set_27 : decode cX4_set 27 = .ok (.iload_n 1, 1) := by decide +kernel
theorem dX4_set_28 : decode cX4_set 28 = .ok (.iaload, 1) := by decide +kernel
theorem dX4_set_29 : decode cX4_set 29 = .ok (.invokestatic 18, 3) := by decide +kernel
theorem dX4_set_32 : decode cX4_set 32 = .ok (.ifCond .ne 5, 3) := by decide +kernel
theorem dX4_set_35 : decode cX4_set 35 = .ok (.iconst 0, 1) := by decide +kernel
theorem dX4_set_36 : decode cX4_set 36 = .ok (.ireturn, 1) := by decide +kernel
theorem dX4_set_37 : decode cX4_set 37 = .ok (.aload_n 0, 1) := by decide +kernel
theorem dX4_set_38 : decode cX4_set 38 = .ok (.getfield 9, 3) := by decide +kernel
theorem dX4_set_41 : decode cX4_set 41 = .ok (.iload_n 1, 1) := by decide +kernel
theorem dX4_set_42 : decode cX4_set 42 = .ok (.iload_n 2, 1) := by decide +kernel
theorem dX4_set_43 : decode cX4_set 43 = .ok (.iastore, 1) := by decide +kernel
theorem dX4_set_44 : decode cX4_set 44 = .ok (.iconst 1, 1) := by decide +kernel
theorem dX4_set_45 : decode cX4_set 45 = .ok (.ireturn, 1) := by decide +kernel
theorem dX4_anew_0 : decode cX4_anew 0 = .ok (.aload_n 0, 1) := by decide +kernel
theorem dX4_anew_1 : decode cX4_anew 1 = .ok (.getfield 9, 3) := by decide +kernel
theorem dX4_anew_4 : decode cX4_anew 4 = .ok (.iconst 4, 1) := by decide +kernel
theorem dX4_anew_5 : decode cX4_anew 5 = .ok (.iaload, 1) := by decide +kernel
theorem dX4_anew_6 : decode cX4_anew 6 = .ok (.ireturn, 1) := by decide +kernel
theorem dX4_out_0 : decode cX4_out 0 = .ok (.aload_n 0, 1) := by decide +kernel
theorem dX4_out_1 : decode cX4_out 1 = .ok (.getfield 9, 3) := by decide +kernel
theorem dX4_out_4 : decode cX4_out 4 = .ok (.iconst 3, 1) := by decide +kernel
theorem dX4_out_5 : decode cX4_out 5 = .ok (.iaload, 1) := by decide +kernel
theorem dX4_out_6 : decode cX4_out 6 = .ok (.ireturn, 1) := by decide +kernel
theorem dX4_ofNotes_0 : decode cX4_ofNotes 0 = .ok (.aload_n 0, 1) := by decide +kernel
theorem dX4_ofNotes_1 : decode cX4_ofNotes 1 = .ok (.getfield 9, 3) := by decide +kernel
theorem dX4_ofNotes_4 : decode cX4_ofNotes 4 = .ok (.iconst 0, 1) := by decide +kernel
theorem dX4_ofNotes_5 : decode cX4_ofNotes 5 = .ok (.iaload, 1) := by decide +kernel
theorem dX4_ofNotes_6 : decode cX4_ofNotes 6 = .ok (.iload_n 1, 1) := by decide +kernel
theorem dX4_ofNotes_7 : decode cX4_ofNotes 7 = .ok (.ifCond .ge 8, 3) := by decide +kernel
theorem dX4_ofNotes_10 : decode cX4_ofNotes 10 = .ok (.iload_n 1, 1) := by decide +kernel
theorem dX4_ofNotes_11 : decode cX4_ofNotes 11 = .ok (.ineg, 1) := by decide +kernel
theorem dX4_ofNotes_12 : decode cX4_ofNotes 12 = .ok (.goto 4, 3) := by decide +kernel
theorem dX4_ofNotes_15 : decode cX4_ofNotes 15 = .ok (.iload_n 1, 1) := by decide +kernel
theorem dX4_ofNotes_16 : decode cX4_ofNotes 16 = .ok (.imul, 1) := by decide +kernel
theorem dX4_ofNotes_17 : decode cX4_ofNotes 17 = .ok (.istore_n 3, 1) := by decide +kernel
theorem dX4_ofNotes_18 : decode cX4_ofNotes 18 = .ok (.aload_n 0, 1) := by decide +kernel
theorem dX4_ofNotes_19 : decode cX4_ofNotes 19 = .ok (.getfield 9, 3) := by decide +kernel
theorem dX4_ofNotes_22 : decode cX4_ofNotes 22 = .ok (.iconst 2, 1) := by decide +kernel
theorem dX4_ofNotes_23 : decode cX4_ofNotes 23 = .ok (.iaload, 1) := by decide +kernel
theorem dX4_ofNotes_24 : decode cX4_ofNotes 24 = .ok (.iload_n 2, 1) := by decide +kernel
theorem dX4_ofNotes_25 : decode cX4_ofNotes 25 = .ok (.ifCond .ge 8, 3) := by decide +kernel
theorem dX4_ofNotes_28 : decode cX4_ofNotes 28 = .ok (.iload_n 2, 1) := by decide +kernel
theorem dX4_ofNotes_29 : decode cX4_ofNotes 29 = .ok (.ineg, 1) := by decide +kernel
theorem dX4_ofNotes_30 : decode cX4_ofNotes 30 = .ok (.goto 4, 3) := by decide +kernel
theorem dX4_ofNotes_33 : decode cX4_ofNotes 33 = .ok (.iload_n 2, 1) := by decide +kernel
theorem dX4_ofNotes_34 : decode cX4_ofNotes 34 = .ok (.imul, 1) := by decide +kernel
theorem dX4_ofNotes_35 : decode cX4_ofNotes 35 = .ok (.istore 4, 2) := by decide +kernel
theorem dX4_ofNotes_37 : decode cX4_ofNotes 37 = .ok (.iload_n 3, 1) := by decide +kernel
theorem dX4_ofNotes_38 : decode cX4_ofNotes 38 = .ok (.aload_n 0, 1) := by decide +kernel
theorem dX4_ofNotes_39 : decode cX4_ofNotes 39 = .ok (.getfield 9, 3) := by decide +kernel
theorem dX4_ofNotes_42 : decode cX4_ofNotes 42 = .ok (.iconst 1, 1) := by decide +kernel
theorem dX4_ofNotes_43 : decode cX4_ofNotes 43 = .ok (.iaload, 1) := by decide +kernel
theorem dX4_ofNotes_44 : decode cX4_ofNotes 44 = .ok (.if_icmp .ge 7, 3) := by decide +kernel
theorem dX4_ofNotes_47 : decode cX4_ofNotes 47 = .ok (.iload_n 3, 1) := by decide +kernel
theorem dX4_ofNotes_48 : decode cX4_ofNotes 48 = .ok (.goto 9, 3) := by decide +kernel
theorem dX4_ofNotes_51 : decode cX4_ofNotes 51 = .ok (.aload_n 0, 1) := by decide +kernel
theorem dX4_ofNotes_52 : decode cX4_ofNotes 52 = .ok (.getfield 9, 3) := by decide +kernel
theorem dX4_ofNotes_55 : decode cX4_ofNotes 55 = .ok (.iconst 1, 1) := by decide +kernel
theorem dX4_ofNotes_56 : decode cX4_ofNotes 56 = .ok (.iaload, 1) := by decide +kernel
theorem dX4_ofNotes_57 : decode cX4_ofNotes 57 = .ok (.iload 4, 2) := by decide +kernel
theorem dX4_ofNotes_59 : decode cX4_ofNotes 59 = .ok (.iadd, 1) := by decide +kernel
theorem dX4_ofNotes_60 : decode cX4_ofNotes 60 = .ok (.ireturn, 1) := by decide +kernel
theorem dX4_ofTwo_0 : decode cX4_ofTwo 0 = .ok (.aload_n 1, 1) := by decide +kernel
theorem dX4_ofTwo_1 : decode cX4_ofTwo 1 = .ok (.iload_n 2, 1) := by decide +kernel
theorem dX4_ofTwo_2 : decode cX4_ofTwo 2 = .ok (.invokevirtual 22, 3) := by decide +kernel
theorem dX4_ofTwo_5 : decode cX4_ofTwo 5 = .ok (.istore 6, 2) := by decide +kernel
theorem dX4_ofTwo_7 : decode cX4_ofTwo 7 = .ok (.aload_n 3, 1) := by decide +kernel
theorem dX4_ofTwo_8 : decode cX4_ofTwo 8 = .ok (.iload 4, 2) := by decide +kernel
theorem dX4_ofTwo_10 : decode cX4_ofTwo 10 = .ok (.invokevirtual 22, 3) := by decide +kernel
theorem dX4_ofTwo_13 : decode cX4_ofTwo 13 = .ok (.istore 7, 2) := by decide +kernel
theorem dX4_ofTwo_15 : decode cX4_ofTwo 15 = .ok (.iload 6, 2) := by decide +kernel
theorem dX4_ofTwo_17 : decode cX4_ofTwo 17 = .ok (.iconst (-1), 1) := by decide +kernel
theorem dX4_ofTwo_18 : decode cX4_ofTwo 18 = .ok (.if_icmp .eq 9, 3) := by decide +kernel
theorem dX4_ofTwo_21 : decode cX4_ofTwo 21 = .ok (.iload 7, 2) := by decide +kernel
theorem dX4_ofTwo_23 : decode cX4_ofTwo 23 = .ok (.iconst (-1), 1) := by decide +kernel
theorem dX4_ofTwo_24 : decode cX4_ofTwo 24 = .ok (.if_icmp .ne 5, 3) := by decide +kernel
theorem dX4_ofTwo_27 : decode cX4_ofTwo 27 = .ok (.iconst 0, 1) := by decide +kernel
theorem dX4_ofTwo_28 : decode cX4_ofTwo 28 = .ok (.ireturn, 1) := by decide +kernel
theorem dX4_ofTwo_29 : decode cX4_ofTwo 29 = .ok (.aload_n 0, 1) := by decide +kernel
theorem dX4_ofTwo_30 : decode cX4_ofTwo 30 = .ok (.iload 6, 2) := by decide +kernel
theorem dX4_ofTwo_32 : decode cX4_ofTwo 32 = .ok (.iload 5, 2) := by decide +kernel
theorem dX4_ofTwo_34 : decode cX4_ofTwo 34 = .ok (.iadd, 1) := by decide +kernel
theorem dX4_ofTwo_35 : decode cX4_ofTwo 35 = .ok (.iload 7, 2) := by decide +kernel
theorem dX4_ofTwo_37 : decode cX4_ofTwo 37 = .ok (.isub, 1) := by decide +kernel
theorem dX4_ofTwo_38 : decode cX4_ofTwo 38 = .ok (.aload_n 1, 1) := by decide +kernel
theorem dX4_ofTwo_39 : decode cX4_ofTwo 39 = .ok (.iload_n 2, 1) := by decide +kernel
theorem dX4_ofTwo_40 : decode cX4_ofTwo 40 = .ok (.invokevirtual 28, 3) := by decide +kernel
theorem dX4_ofTwo_43 : decode cX4_ofTwo 43 = .ok (.aload_n 3, 1) := by decide +kernel
theorem dX4_ofTwo_44 : decode cX4_ofTwo 44 = .ok (.iload 4, 2) := by decide +kernel
theorem dX4_ofTwo_46 : decode cX4_ofTwo 46 = .ok (.invokevirtual 28, 3) := by decide +kernel
theorem dX4_ofTwo_49 : decode cX4_ofTwo 49 = .ok (.isub, 1) := by decide +kernel
theorem dX4_ofTwo_50 : decode cX4_ofTwo 50 = .ok (.invokevirtual 31, 3) := by decide +kernel
theorem dX4_ofTwo_53 : decode cX4_ofTwo 53 = .ok (.ireturn, 1) := by decide +kernel
theorem dX4_ofOne_0 : decode cX4_ofOne 0 = .ok (.aload_n 1, 1) := by decide +kernel
theorem dX4_ofOne_1 : decode cX4_ofOne 1 = .ok (.iload_n 2, 1) := by decide +kernel
theorem dX4_ofOne_2 : decode cX4_ofOne 2 = .ok (.invokevirtual 22, 3) := by decide +kernel
theorem dX4_ofOne_5 : decode cX4_ofOne 5 = .ok (.iconst (-1), 1) := by decide +kernel
theorem dX4_ofOne_6 : decode cX4_ofOne 6 = .ok (.if_icmp .ne 7, 3) := by decide +kernel
theorem dX4_ofOne_9 : decode cX4_ofOne 9 = .ok (.iconst 0, 1) := by decide +kernel
theorem dX4_ofOne_10 : decode cX4_ofOne 10 = .ok (.goto 9, 3) := by decide +kernel
theorem dX4_ofOne_13 : decode cX4_ofOne 13 = .ok (.aload_n 0, 1) := by decide +kernel
theorem dX4_ofOne_14 : decode cX4_ofOne 14 = .ok (.getfield 9, 3) := by decide +kernel
theorem dX4_ofOne_17 : decode cX4_ofOne 17 = .ok (.iconst 3, 1) := by decide +kernel
theorem dX4_ofOne_18 : decode cX4_ofOne 18 = .ok (.iaload, 1) := by decide +kernel
theorem dX4_ofOne_19 : decode cX4_ofOne 19 = .ok (.ireturn, 1) := by decide +kernel
theorem dX5_init_0 : decode cX5_init 0 = .ok (.aload_n 0, 1) := by decide +kernel
theorem dX5_init_1 : decode cX5_init 1 = .ok (.invokespecial 3, 3) := by decide +kernel
theorem dX5_init_4 : decode cX5_init 4 = .ok (.aload_n 0, 1) := by decide +kernel
theorem dX5_init_5 : decode cX5_init 5 = .ok (.new 9, 3) := by decide +kernel
theorem dX5_init_8 : decode cX5_init 8 = .ok (.dup, 1) := by decide +kernel
theorem dX5_init_9 : decode cX5_init 9 = .ok (.invokespecial 11, 3) := by decide +kernel
theorem dX5_init_12 : decode cX5_init 12 = .ok (.putfield 12, 3) := by decide +kernel
theorem dX5_init_15 : decode cX5_init 15 = .ok (.aload_n 0, 1) := by decide +kernel
theorem dX5_init_16 : decode cX5_init 16 = .ok (.new 9, 3) := by decide +kernel
theorem dX5_init_19 : decode cX5_init 19 = .ok (.dup, 1) := by decide +kernel
theorem dX5_init_20 : decode cX5_init 20 = .ok (.invokespecial 11, 3) := by decide +kernel
theorem dX5_init_23 : decode cX5_init 23 = .ok (.putfield 18, 3) := by decide +kernel
theorem dX5_init_26 : decode cX5_init 26 = .ok (.aload_n 0, 1) := by decide +kernel
theorem dX5_init_27 : decode cX5_init 27 = .ok (.new 21, 3) := by decide +kernel
theorem dX5_init_30 : decode cX5_init 30 = .ok (.dup, 1) := by decide +kernel
theorem dX5_init_31 : decode cX5_init 31 = .ok (.invokespecial 23, 3) := by decide +kernel
theorem dX5_init_34 : decode cX5_init 34 = .ok (.putfield 24, 3) := by decide +kernel
theorem dX5_init_37 : decode cX5_init 37 = .ok (.aload_n 0, 1) := by decide +kernel
theorem dX5_init_38 : decode cX5_init 38 = .ok (.iconst (-1), 1) := by decide +kernel
theorem dX5_init_39 : decode cX5_init 39 = .ok (.putfield 28, 3) := by decide +kernel
theorem dX5_init_42 : decode cX5_init 42 = .ok (.aload_n 0, 1) := by decide +kernel
theorem dX5_init_43 : decode cX5_init 43 = .ok (.iload_n 1, 1) := by decide +kernel
theorem dX5_init_44 : decode cX5_init 44 = .ok (.putfield 32, 3) := by decide +kernel
theorem dX5_init_47 : decode cX5_init 47 = .ok (.aload_n 0, 1) := by decide +kernel
theorem dX5_init_48 : decode cX5_init 48 = .ok (.iload_n 2, 1) := by decide +kernel
theorem dX5_init_49 : decode cX5_init 49 = .ok (.putfield 35, 3) := by decide +kernel
theorem dX5_init_52 : decode cX5_init 52 = .ok (.aload_n 0, 1) := by decide +kernel
theorem dX5_init_53 : decode cX5_init 53 = .ok (.iload_n 3, 1) := by decide +kernel
theorem dX5_init_54 : decode cX5_init 54 = .ok (.putfield 38, 3) := by decide +kernel
theorem dX5_init_57 : decode cX5_init 57 = .ok (.aload_n 0, 1) := by decide +kernel
theorem dX5_init_58 : decode cX5_init 58 = .ok (.iload 4, 2) := by decide +kernel
theorem dX5_init_60 : decode cX5_init 60 = .ok (.putfield 41, 3) := by decide +kernel
theorem dX5_init_63 : decode cX5_init 63 = .ok (.return_, 1) := by decide +kernel
theorem dX5_length_0 : decode cX5_length 0 = .ok (.aload_n 0, 1) := by decide +kernel
theorem dX5_length_1 : decode cX5_length 1 = .ok (.getfield 18, 3) := by decide +kernel
theorem dX5_length_4 : decode cX5_length 4 = .ok (.invokevirtual 44, 3) := by decide +kernel
theorem dX5_length_7 : decode cX5_length 7 = .ok (.ireturn, 1) := by decide +kernel
theorem dX5_has_0 : decode cX5_has 0 = .ok (.aload_n 0, 1) := by decide +kernel
theorem dX5_has_1 : decode cX5_has 1 = .ok (.getfield 18, 3) := by decide +kernel
theorem dX5_has_4 : decode cX5_has 4 = .ok (.iload_n 1, 1) := by decide +kernel
theorem dX5_has_5 : decode cX5_has 5 = .ok (.invokevirtual 48, 3) := by decide +kernel
theorem dX5_has_8 : decode cX5_has 8 = .ok (.ireturn, 1) := by decide +kernel
theorem dX5_append_0 : decode cX5_append 0 = .ok (.aload_n 0, 1) := by decide +kernel
theorem dX5_append_1 : decode cX5_append 1 = .ok (.getfield 18, 3) := by decide +kernel
theorem dX5_append_4 : decode cX5_append 4 = .ok (.iload_n 1, 1) := by decide +kernel
theorem dX5_append_5 : decode cX5_append 5 = .ok (.iload_n 2, 1) := by decide +kernel
theorem dX5_append_6 : decode cX5_append 6 = .ok (.invokevirtual 52, 3) := by decide +kernel
theorem dX5_append_9 : decode cX5_append 9 = .ok (.ireturn, 1) := by decide +kernel
theorem dX5_amend_0 : decode cX5_amend 0 = .ok (.aload_n 0, 1) := by decide +kernel
theorem dX5_amend_1 : decode cX5_amend 1 = .ok (.getfield 24, 3) := by decide +kernel
theorem dX5_amend_4 : decode cX5_amend 4 = .ok (.aload_n 1, 1) := by decide +kernel
theorem dX5_amend_5 : decode cX5_amend 5 = .ok (.invokevirtual 56, 3) := by decide +kernel
theorem dX5_amend_8 : decode cX5_amend 8 = .ok (.pop, 1) := by decide +kernel
theorem dX5_amend_9 : decode cX5_amend 9 = .ok (.return_, 1) := by decide +kernel
theorem dX5_markForged_0 : decode cX5_markForged 0 = .ok (.aload_n 0, 1) := by decide +kernel
theorem dX5_markForged_1 : decode cX5_markForged 1 = .ok (.iload_n 1, 1) := by decide +kernel
theorem dX5_markForged_2 : decode cX5_markForged 2 = .ok (.putfield 28, 3) := by decide +kernel
theorem dX5_markForged_5 : decode cX5_markForged 5 = .ok (.return_, 1) := by decide +kernel
theorem dX5_isForgedBy_0 : decode cX5_isForgedBy 0 = .ok (.aload_n 0, 1) := by decide +kernel
theorem dX5_isForgedBy_1 : decode cX5_isForgedBy 1 = .ok (.getfield 28, 3) := by decide +kernel
theorem dX5_isForgedBy_4 : decode cX5_isForgedBy 4 = .ok (.iconst (-1), 1) := by decide +kernel
theorem dX5_isForgedBy_5 : decode cX5_isForgedBy 5 = .ok (.if_icmp .eq 15, 3) := by decide +kernel
theorem dX5_isForgedBy_8 : decode cX5_isForgedBy 8 = .ok (.aload_n 0, 1) := by decide +kernel
theorem dX5_isForgedBy_9 : decode cX5_isForgedBy 9 = .ok (.getfield 28, 3) := by decide +kernel
theorem dX5_isForgedBy_12 : decode cX5_isForgedBy 12 = .ok (.iload_n 1, 1) := by decide +kernel
theorem dX5_isForgedBy_13 : decode cX5_isForgedBy 13 = .ok (.if_icmp .gt 7, 3) := by decide +kernel
theorem dX5_isForgedBy_16 : decode cX5_isForgedBy 16 = .ok (.iconst 1, 1) := by decide +kernel
theorem dX5_isForgedBy_17 : decode cX5_isForgedBy 17 = .ok (.goto 4, 3) := by decide +kernel
theorem dX5_isForgedBy_20 : decode cX5_isForgedBy 20 = .ok (.iconst 0, 1) := by decide +kernel
theorem dX5_isForgedBy_21 : decode cX5_isForgedBy 21 = .ok (.ireturn, 1) := by decide +kernel
theorem dX5_isEarlierThan_0 : decode cX5_isEarlierThan 0 = .ok (.aload_n 0, 1) := by decide +kernel
theorem dX5_isEarlierThan_1 : decode cX5_isEarlierThan 1 = .ok (.getfield 38, 3) := by decide +kernel
theorem dX5_isEarlierThan_4 : decode cX5_isEarlierThan 4 = .ok (.aload_n 1, 1) := by decide +kernel
theorem dX5_isEarlierThan_5 : decode cX5_isEarlierThan 5 = .ok (.getfield 38, 3) := by decide +kernel
theorem dX5_isEarlierThan_8 : decode cX5_isEarlierThan 8 = .ok (.if_icmp .lt 25, 3) := by decide +kernel
theorem dX5_isEarlierThan_11 : decode cX5_isEarlierThan 11 = .ok (.aload_n 0, 1) := by decide +kernel
theorem dX5_isEarlierThan_12 : decode cX5_isEarlierThan 12 = .ok (.getfield 38, 3) := by decide +kernel
theorem dX5_isEarlierThan_15 : decode cX5_isEarlierThan 15 = .ok (.aload_n 1, 1) := by decide +kernel
theorem dX5_isEarlierThan_16 : decode cX5_isEarlierThan 16 = .ok (.getfield 38, 3) := by decide +kernel
theorem dX5_isEarlierThan_19 : decode cX5_isEarlierThan 19 = .ok (.if_icmp .ne 18, 3) := by decide +kernel
theorem dX5_isEarlierThan_22 : decode cX5_isEarlierThan 22 = .ok (.aload_n 0, 1) := by decide +kernel
theorem dX5_isEarlierThan_23 : decode cX5_isEarlierThan 23 = .ok (.getfield 32, 3) := by decide +kernel
theorem dX5_isEarlierThan_26 : decode cX5_isEarlierThan 26 = .ok (.aload_n 1, 1) := by decide +kernel
theorem dX5_isEarlierThan_27 : decode cX5_isEarlierThan 27 = .ok (.getfield 32, 3) := by decide +kernel
theorem dX5_isEarlierThan_30 : decode cX5_isEarlierThan 30 = .ok (.if_icmp .ge 7, 3) := by decide +kernel
theorem dX5_isEarlierThan_33 : decode cX5_isEarlierThan 33 = .ok (.iconst 1, 1) := by decide +kernel
theorem dX5_isEarlierThan_34 : decode cX5_isEarlierThan 34 = .ok (.goto 4, 3) := by decide +kernel
theorem dX5_isEarlierThan_37 : decode cX5_isEarlierThan 37 = .ok (.iconst 0, 1) := by decide +kernel
theorem dX5_isEarlierThan_38 : decode cX5_isEarlierThan 38 = .ok (.ireturn, 1) := by decide +kernel
theorem dX5_openOn_0 : decode cX5_openOn 0 = .ok (.aload_n 0, 1) := by decide +kernel
theorem dX5_openOn_1 : decode cX5_openOn 1 = .ok (.iload_n 1, 1) := by decide +kernel
theorem dX5_openOn_2 : decode cX5_openOn 2 = .ok (.invokevirtual 60, 3) := by decide +kernel
theorem dX5_openOn_5 : decode cX5_openOn 5 = .ok (.istore_n 2, 1) := by decide +kernel
theorem dX5_openOn_6 : decode cX5_openOn 6 = .ok (.iload_n 2, 1) := by decide +kernel
theorem dX5_openOn_7 : decode cX5_openOn 7 = .ok (.aload_n 0, 1) := by decide +kernel
theorem dX5_openOn_8 : decode cX5_openOn 8 = .ok (.getfield 64, 3) := by decide +kernel
theorem dX5_openOn_11 : decode cX5_openOn 11 = .ok (.if_icmp .ne 22, 3) := by decide +kernel
theorem dX5_openOn_14 : decode cX5_openOn 14 = .ok (.aload_n 0, 1) := by decide +kernel
theorem dX5_openOn_15 : decode cX5_openOn 15 = .ok (.getfield 12, 3) := by decide +kernel
theorem dX5_openOn_18 : decode cX5_openOn 18 = .ok (.invokevirtual 44, 3) := by decide +kernel
theorem dX5_openOn_21 : decode cX5_openOn 21 = .ok (.aload_n 0, 1) := by decide +kernel
theorem dX5_openOn_22 : decode cX5_openOn 22 = .ok (.getfield 18, 3) := by decide +kernel
theorem dX5_openOn_25 : decode cX5_openOn 25 = .ok (.invokevirtual 44, 3) := by decide +kernel
theorem dX5_openOn_28 : decode cX5_openOn 28 = .ok (.if_icmp .ne 5, 3) := by decide +kernel
theorem dX5_openOn_31 : decode cX5_openOn 31 = .ok (.iconst 0, 1) := by decide +kernel
theorem dX5_openOn_32 : decode cX5_openOn 32 = .ok (.ireturn, 1) := by decide +kernel
theorem dX5_openOn_33 : decode cX5_openOn 33 = .ok (.aload_n 0, 1) := by decide +kernel
theorem dX5_openOn_34 : decode cX5_openOn 34 = .ok (.getfield 12, 3) := by decide +kernel
theorem dX5_openOn_37 : decode cX5_openOn 37 = .ok (.aload_n 0, 1) := by decide +kernel
theorem dX5_openOn_38 : decode cX5_openOn 38 = .ok (.getfield 18, 3) := by decide +kernel
theorem dX5_openOn_41 : decode cX5_openOn 41 = .ok (.invokevirtual 67, 3) := by decide +kernel
theorem dX5_openOn_44 : decode cX5_openOn 44 = .ok (.iconst 0, 1) := by decide +kernel
theorem dX5_openOn_45 : decode cX5_openOn 45 = .ok (.istore_n 3, 1) := by decide +kernel
theorem dX5_openOn_46 : decode cX5_openOn 46 = .ok (.iload_n 3, 1) := by decide +kernel
theorem dX5_openOn_47 : decode cX5_openOn 47 = .ok (.iload_n 2, 1) := by decide +kernel
theorem dX5_openOn_48 : decode cX5_openOn 48 = .ok (.if_icmp .ge 55, 3) := by decide +kernel
theorem dX5_openOn_51 : decode cX5_openOn 51 = .ok (.iload_n 3, 1) := by decide +kernel
theorem dX5_openOn_52 : decode cX5_openOn 52 = .ok (.aload_n 0, 1) := by decide +kernel
theorem dX5_openOn_53 : decode cX5_openOn 53 = .ok (.getfield 24, 3) := by decide +kernel
theorem dX5_openOn_56 : decode cX5_openOn 56 = .ok (.invokevirtual 71, 3) := by decide +kernel
theorem dX5_openOn_59 : decode cX5_openOn 59 = .ok (.if_icmp .ge 44, 3) := by decide +kernel
theorem dX5_openOn_62 : decode cX5_openOn 62 = .ok (.aload_n 0, 1) := by decide +kernel
theorem dX5_openOn_63 : decode cX5_openOn 63 = .ok (.getfield 24, 3) := by decide +kernel
theorem dX5_openOn_66 : decode cX5_openOn 66 = .ok (.iload_n 3, 1) := by decide +kernel
theorem dX5_openOn_67 : decode cX5_openOn 67 = .ok (.invokevirtual 74, 3) := by decide +kernel
theorem dX5_openOn_70 : decode cX5_openOn 70 = .ok (.checkcast 78, 3) := by decide +kernel
theorem dX5_openOn_73 : decode cX5_openOn 73 = .ok (.astore 4, 2) := by decide +kernel
theorem dX5_openOn_75 : decode cX5_openOn 75 = .ok (.aload_n 0, 1) := by decide +kernel
theorem dX5_openOn_76 : decode cX5_openOn 76 = .ok (.getfield 12, 3) := by decide +kernel
theorem dX5_openOn_79 : decode cX5_openOn 79 = .ok (.aload 4, 2) := by decide +kernel
theorem dX5_openOn_81 : decode cX5_openOn 81 = .ok (.getfield 80, 3) := by decide +kernel
theorem dX5_openOn_84 : decode cX5_openOn 84 = .ok (.aload 4, 2) := by decide +kernel
theorem dX5_openOn_86 : decode cX5_openOn 86 = .ok (.getfield 83, 3) := by decide +kernel
theorem dX5_openOn_89 : decode cX5_openOn 89 = .ok (.aload 4, 2) := by decide +kernel
theorem dX5_openOn_91 : decode cX5_openOn 91 = .ok (.getfield 86, 3) := by decide +kernel
theorem dX5_openOn_94 : decode cX5_openOn 94 = .ok (.invokevirtual 89, 3) := by decide +kernel
theorem dX5_openOn_97 : decode cX5_openOn 97 = .ok (.iinc 3 1, 3) := by decide +kernel
theorem dX5_openOn_100 : decode cX5_openOn 100 = .ok (.goto (-54), 3) := by decide +kernel
theorem dX5_openOn_103 : decode cX5_openOn 103 = .ok (.aload_n 0, 1) := by decide +kernel
theorem dX5_openOn_104 : decode cX5_openOn 104 = .ok (.iload_n 2, 1) := by decide +kernel
theorem dX5_openOn_105 : decode cX5_openOn 105 = .ok (.putfield 64, 3) := by decide +kernel
theorem dX5_openOn_108 : decode cX5_openOn 108 = .ok (.iconst 1, 1) := by decide +kernel
theorem dX5_openOn_109 : decode cX5_openOn 109 = .ok (.ireturn, 1) := by decide +kernel
theorem dX5_amendedBy_0 : decode cX5_amendedBy 0 = .ok (.iconst 0, 1) := by decide +kernel
theorem dX5_amendedBy_1 : decode cX5_amendedBy 1 = .ok (.istore_n 2, 1) := by decide +kernel
theorem dX5_amendedBy_2 : decode cX5_amendedBy 2 = .ok (.iload_n 2, 1) := by decide +kernel
theorem dX5_amendedBy_3 : decode cX5_amendedBy 3 = .ok (.aload_n 0, 1) := by decide +kernel
theorem dX5_amendedBy_4 : decode cX5_amendedBy 4 = .ok (.getfield 24, 3) := by decide +kernel
theorem dX5_amendedBy_7 : decode cX5_amendedBy 7 = .ok (.invokevirtual 71, 3) := by decide +kernel
theorem dX5_amendedBy_10 : decode cX5_amendedBy 10 = .ok (.if_icmp .ge 27, 3) := by decide +kernel
theorem dX5_amendedBy_13 : decode cX5_amendedBy 13 = .ok (.aload_n 0, 1) := by decide +kernel
theorem dX5_amendedBy_14 : decode cX5_amendedBy 14 = .ok (.getfield 24, 3) := by decide +kernel
theorem dX5_amendedBy_17 : decode cX5_amendedBy 17 = .ok (.iload_n 2, 1) := by decide +kernel
theorem dX5_amendedBy_18 : decode cX5_amendedBy 18 = .ok (.invokevirtual 74, 3) := by decide +kernel
theorem dX5_amendedBy_21 : decode cX5_amendedBy 21 = .ok (.checkcast 78, 3) := by decide +kernel
theorem dX5_amendedBy_24 : decode cX5_amendedBy 24 = .ok (.getfield 93, 3) := by decide +kernel
theorem dX5_amendedBy_27 : decode cX5_amendedBy 27 = .ok (.iload_n 1, 1) := by decide +kernel
theorem dX5_amendedBy_28 : decode cX5_amendedBy 28 = .ok (.if_icmp .gt 9, 3) := by decide +kernel
theorem dX5_amendedBy_31 : decode cX5_amendedBy 31 = .ok (.iinc 2 1, 3) := by decide +kernel
theorem dX5_amendedBy_34 : decode cX5_amendedBy 34 = .ok (.goto (-32), 3) := by decide +kernel
theorem dX5_amendedBy_37 : decode cX5_amendedBy 37 = .ok (.iload_n 2, 1) := by decide +kernel
theorem dX5_amendedBy_38 : decode cX5_amendedBy 38 = .ok (.ireturn, 1) := by decide +kernel
theorem dX6_init_0 : decode cX6_init 0 = .ok (.aload_n 0, 1) := by decide +kernel
theorem dX6_init_1 : decode cX6_init 1 = .ok (.invokespecial 3, 3) := by decide +kernel
theorem dX6_init_4 : decode cX6_init 4 = .ok (.aload_n 0, 1) := by decide +kernel
theorem dX6_init_5 : decode cX6_init 5 = .ok (.bipush 24, 2) := by decide +kernel
theorem dX6_init_7 : decode cX6_init 7 = .ok (.newarray .int, 2) := by decide +kernel
theorem dX6_init_9 : decode cX6_init 9 = .ok (.putfield 9, 3) := by decide +kernel
theorem dX6_init_12 : decode cX6_init 12 = .ok (.aload_n 0, 1) := by decide +kernel
theorem dX6_init_13 : decode cX6_init 13 = .ok (.bipush 24, 2) := by decide +kernel
theorem dX6_init_15 : decode cX6_init 15 = .ok (.newarray .int, 2) := by decide +kernel
theorem dX6_init_17 : decode cX6_init 17 = .ok (.putfield 15, 3) := by decide +kernel
theorem dX6_init_20 : decode cX6_init 20 = .ok (.return_, 1) := by decide +kernel
theorem dX6_length_0 : decode cX6_length 0 = .ok (.aload_n 0, 1) := by decide +kernel
theorem dX6_length_1 : decode cX6_length 1 = .ok (.getfield 18, 3) := by decide +kernel
theorem dX6_length_4 : decode cX6_length 4 = .ok (.ireturn, 1) := by decide +kernel
theorem dX6_has_0 : decode cX6_has 0 = .ok (.iload_n 1, 1) := by decide +kernel
theorem dX6_has_1 : decode cX6_has 1 = .ok (.ifCond .lt 15, 3) := by decide +kernel
theorem dX6_has_4 : decode cX6_has 4 = .ok (.iload_n 1, 1) := by decide +kernel
theorem dX6_has_5 : decode cX6_has 5 = .ok (.aload_n 0, 1) := by decide +kernel
theorem dX6_has_6 : decode cX6_has 6 = .ok (.getfield 18, 3) := by decide +kernel
theorem dX6_has_9 : decode cX6_has 9 = .ok (.if_icmp .ge 7, 3) := by decide +kernel
theorem dX6_has_12 : decode cX6_has 12 = .ok (.iconst 1, 1) := by decide +kernel
theorem dX6_has_13 : decode cX6_has 13 = .ok (.goto 4, 3) := by decide +kernel
theorem dX6_has_16 : decode cX6_has 16 = .ok (.iconst 0, 1) := by decide +kernel
theorem dX6_has_17 : decode cX6_has 17 = .ok (.ireturn, 1) := by decide +kernel
theorem dX6_pitchAt_0 : decode cX6_pitchAt 0 = .ok (.iload_n 1, 1) := by decide +kernel
theorem dX6_pitchAt_1 : decode cX6_pitchAt 1 = .ok (.ifCond .lt 20, 3) := by decide +kernel
theorem dX6_pitchAt_4 : decode cX6_pitchAt 4 = .ok (.iload_n 1, 1) := by decide +kernel
theorem dX6_pitchAt_5 : decode cX6_pitchAt 5 = .ok (.aload_n 0, 1) := by decide +kernel
theorem dX6_pitchAt_6 : decode cX6_pitchAt 6 = .ok (.getfield 18, 3) := by decide +kernel
theorem dX6_pitchAt_9 : decode cX6_pitchAt 9 = .ok (.if_icmp .ge 12, 3) := by decide +kernel
theorem dX6_pitchAt_12 : decode cX6_pitchAt 12 = .ok (.aload_n 0, 1) := by decide +kernel
theorem dX6_pitchAt_13 : decode cX6_pitchAt 13 = .ok (.getfield 9, 3) := by decide +kernel
theorem dX6_pitchAt_16 : decode cX6_pitchAt 16 = .ok (.iload_n 1, 1) := by decide +kernel
theorem dX6_pitchAt_17 : decode cX6_pitchAt 17 = .ok (.iaload, 1) := by decide +kernel
theorem dX6_pitchAt_18 : decode cX6_pitchAt 18 = .ok (.goto 4, 3) := by decide +kernel
theorem dX6_pitchAt_21 : decode cX6_pitchAt 21 = .ok (.iconst (-1), 1) := by decide +kernel
theorem dX6_pitchAt_22 : decode cX6_pitchAt 22 = .ok (.ireturn, 1) := by decide +kernel
theorem dX6_beatsAt_0 : decode cX6_beatsAt 0 = .ok (.iload_n 1, 1) := by decide +kernel
theorem dX6_beatsAt_1 : decode cX6_beatsAt 1 = .ok (.ifCond .lt 20, 3) := by decide +kernel
theorem dX6_beatsAt_4 : decode cX6_beatsAt 4 = .ok (.iload_n 1, 1) := by decide +kernel
theorem dX6_beatsAt_5 : decode cX6_beatsAt 5 = .ok (.aload_n 0, 1) := by decide +kernel
theorem dX6_beatsAt_6 : decode cX6_beatsAt 6 = .ok (.getfield 18, 3) := by decide +kernel
theorem dX6_beatsAt_9 : decode cX6_beatsAt 9 = .ok (.if_icmp .ge 12, 3) := by decide +kernel
theorem dX6_beatsAt_12 : decode cX6_beatsAt 12 = .ok (.aload_n 0, 1) := by decide +kernel
theorem dX6_beatsAt_13 : decode cX6_beatsAt 13 = .ok (.getfield 15, 3) := by decide +kernel
theorem dX6_beatsAt_16 : decode cX6_beatsAt 16 = .ok (.iload_n 1, 1) := by decide +kernel
theorem dX6_beatsAt_17 : decode cX6_beatsAt 17 = .ok (.iaload, 1) := by decide +kernel
theorem dX6_beatsAt_18 : decode cX6_beatsAt 18 = .ok (.goto 4, 3) := by decide +kernel
theorem dX6_beatsAt_21 : decode cX6_beatsAt 21 = .ok (.iconst 0, 1) := by decide +kernel
theorem dX6_beatsAt_22 : decode cX6_beatsAt 22 = .ok (.ireturn, 1) := by decide +kernel
theorem dX6_append_0 : decode cX6_append 0 = .ok (.aload_n 0, 1) := by decide +kernel
theorem dX6_append_1 : decode cX6_append 1 = .ok (.getfield 18, 3) := by decide +kernel
theorem dX6_append_4 : decode cX6_append 4 = .ok (.bipush 24, 2) := by decide +kernel
theorem dX6_append_6 : decode cX6_append 6 = .ok (.if_icmp .lt 5, 3) := by decide +kernel
theorem dX6_append_9 : decode cX6_append 9 = .ok (.iconst 0, 1) := by decide +kernel
theorem dX6_append_10 : decode cX6_append 10 = .ok (.ireturn, 1) := by decide +kernel
theorem dX6_append_11 : decode cX6_append 11 = .ok (.aload_n 0, 1) := by decide +kernel
theorem dX6_append_12 : decode cX6_append 12 = .ok (.dup, 1) := by decide +kernel
theorem dX6_append_13 : decode cX6_append 13 = .ok (.getfield 18, 3) := by decide +kernel
theorem dX6_append_16 : decode cX6_append 16 = .ok (.iconst 1, 1) := by decide +kernel
theorem dX6_append_17 : decode cX6_append 17 = .ok (.iadd, 1) := by decide +kernel
theorem dX6_append_18 : decode cX6_append 18 = .ok (.putfield 18, 3) := by decide +kernel
theorem dX6_append_21 : decode cX6_append 21 = .ok (.aload_n 0, 1) := by decide +kernel
theorem dX6_append_22 : decode cX6_append 22 = .ok (.aload_n 0, 1) := by decide +kernel
theorem dX6_append_23 : decode cX6_append 23 = .ok (.getfield 18, 3) := by decide +kernel
theorem dX6_append_26 : decode cX6_append 26 = .ok (.iconst 1, 1) := by decide +kernel
theorem dX6_append_27 : decode cX6_append 27 = .ok (.isub, 1) := by decide +kernel
theorem dX6_append_28 : decode cX6_append 28 = .ok (.iload_n 1, 1) := by decide +kernel
theorem dX6_append_29 : decode cX6_append 29 = .ok (.iload_n 2, 1) := by decide +kernel
theorem dX6_append_30 : decode cX6_append 30 = .ok (.invokevirtual 22, 3) := by decide +kernel
theorem dX6_append_33 : decode cX6_append 33 = .ok (.iconst 1, 1) := by decide +kernel
theorem dX6_append_34 : decode cX6_append 34 = .ok (.ireturn, 1) := by decide +kernel
theorem dX6_put_0 : decode cX6_put 0 = .ok (.aload_n 0, 1) := by decide +kernel
theorem dX6_put_1 : decode cX6_put 1 = .ok (.iload_n 1, 1) := by decide +kernel
theorem dX6_put_2 : decode cX6_put 2 = .ok (.invokevirtual 26, 3) := by decide +kernel
theorem dX6_put_5 : decode cX6_put 5 = .ok (.ifCond .eq 26, 3) := by decide +kernel
theorem dX6_put_8 : decode cX6_put 8 = .ok (.aload_n 0, 1) := by decide +kernel
theorem dX6_put_9 : decode cX6_put 9 = .ok (.getfield 9, 3) := by decide +kernel
theorem dX6_put_12 : decode cX6_put 12 = .ok (.iload_n 1, 1) := by decide +kernel
theorem dX6_put_13 : decode cX6_put 13 = .ok (.iload_n 2, 1) := by decide +kernel
theorem dX6_put_14 : decode cX6_put 14 = .ok (.iastore, 1) := by decide +kernel
theorem dX6_put_15 : decode cX6_put 15 = .ok (.aload_n 0, 1) := by decide +kernel
theorem dX6_put_16 : decode cX6_put 16 = .ok (.getfield 15, 3) := by decide +kernel
theorem dX6_put_19 : decode cX6_put 19 = .ok (.iload_n 1, 1) := by decide +kernel
theorem dX6_put_20 : decode cX6_put 20 = .ok (.iload_n 2, 1) := by decide +kernel
theorem dX6_put_21 : decode cX6_put 21 = .ok (.iconst (-1), 1) := by decide +kernel
theorem dX6_put_22 : decode cX6_put 22 = .ok (.if_icmp .ne 7, 3) := by decide +kernel
theorem dX6_put_25 : decode cX6_put 25 = .ok (.iconst 0, 1) := by decide +kernel
theorem dX6_put_26 : decode cX6_put 26 = .ok (.goto 4, 3) := by decide +kernel
theorem dX6_put_29 : decode cX6_put 29 = .ok (.iload_n 3, 1) := by decide +kernel
theorem dX6_put_30 : decode cX6_put 30 = .ok (.iastore, 1) := by decide +kernel
theorem dX6_put_31 : decode cX6_put 31 = .ok (.return_, 1) := by decide +kernel
theorem dX6_copy_0 : decode cX6_copy 0 = .ok (.aload_n 0, 1) := by decide +kernel
theorem dX6_copy_1 : decode cX6_copy 1 = .ok (.aload_n 1, 1) := by decide +kernel
theorem dX6_copy_2 : decode cX6_copy 2 = .ok (.getfield 18, 3) := by decide +kernel
theorem dX6_copy_5 : decode cX6_copy 5 = .ok (.putfield 18, 3) := by decide +kernel
theorem dX6_copy_8 : decode cX6_copy 8 = .ok (.iconst 0, 1) := by decide +kernel
theorem dX6_copy_9 : decode cX6_copy 9 = .ok (.istore_n 2, 1) := by decide +kernel
theorem dX6_copy_10 : decode cX6_copy 10 = .ok (.iload_n 2, 1) := by decide +kernel
theorem dX6_copy_11 : decode cX6_copy 11 = .ok (.aload_n 0, 1) := by decide +kernel
theorem dX6_copy_12 : decode cX6_copy 12 = .ok (.getfield 18, 3) := by decide +kernel
theorem dX6_copy_15 : decode cX6_copy 15 = .ok (.if_icmp .ge 33, 3) := by decide +kernel
theorem dX6_copy_18 : decode cX6_copy 18 = .ok (.aload_n 0, 1) := by decide +kernel
theorem dX6_copy_19 : decode cX6_copy 19 = .ok (.getfield 9, 3) := by decide +kernel
theorem dX6_copy_22 : decode cX6_copy 22 = .ok (.iload_n 2, 1) := by decide +kernel
theorem dX6_copy_23 : decode cX6_copy 23 = .ok (.aload_n 1, 1) := by decide +kernel
theorem dX6_copy_24 : decode cX6_copy 24 = .ok (.getfield 9, 3) := by decide +kernel
theorem dX6_copy_27 : decode cX6_copy 27 = .ok (.iload_n 2, 1) := by decide +kernel
theorem dX6_copy_28 : decode cX6_copy 28 = .ok (.iaload, 1) := by decide +kernel
theorem dX6_copy_29 : decode cX6_copy 29 = .ok (.iastore, 1) := by decide +kernel
theorem dX6_copy_30 : decode cX6_copy 30 = .ok (.aload_n 0, 1) := by decide +kernel
theorem dX6_copy_31 : decode cX6_copy 31 = .ok (.getfield 15, 3) := by decide +kernel
theorem dX6_copy_34 : decode cX6_copy 34 = .ok (.iload_n 2, 1) := by decide +kernel
theorem dX6_copy_35 : decode cX6_copy 35 = .ok (.aload_n 1, 1) := by decide +kernel
theorem dX6_copy_36 : decode cX6_copy 36 = .ok (.getfield 15, 3) := by decide +kernel
theorem dX6_copy_39 : decode cX6_copy 39 = .ok (.iload_n 2, 1) := by decide +kernel
theorem dX6_copy_40 : decode cX6_copy 40 = .ok (.iaload, 1) := by decide +kernel
theorem dX6_copy_41 : decode cX6_copy 41 = .ok (.iastore, 1) := by decide +kernel
theorem dX6_copy_42 : decode cX6_copy 42 = .ok (.iinc 2 1, 3) := by decide +kernel
theorem dX6_copy_45 : decode cX6_copy 45 = .ok (.goto (-35), 3) := by decide +kernel
theorem dX6_copy_48 : decode cX6_copy 48 = .ok (.return_, 1) := by decide +kernel
theorem dX7_init_0 : decode cX7_init 0 = .ok (.aload_n 0, 1) := by decide +kernel
theorem dX7_init_1 : decode cX7_init 1 = .ok (.invokespecial 3, 3) := by decide +kernel
theorem dX7_init_4 : decode cX7_init 4 = .ok (.aload_n 0, 1) := by decide +kernel
theorem dX7_init_5 : decode cX7_init 5 = .ok (.new 9, 3) := by decide +kernel
theorem dX7_init_8 : decode cX7_init 8 = .ok (.dup, 1) := by decide +kernel
theorem dX7_init_9 : decode cX7_init 9 = .ok (.invokespecial 11, 3) := by decide +kernel
theorem dX7_init_12 : decode cX7_init 12 = .ok (.putfield 12, 3) := by decide +kernel
theorem dX7_init_15 : decode cX7_init 15 = .ok (.aload_n 0, 1) := by decide +kernel
theorem dX7_init_16 : decode cX7_init 16 = .ok (.new 16, 3) := by decide +kernel
theorem dX7_init_19 : decode cX7_init 19 = .ok (.dup, 1) := by decide +kernel
theorem dX7_init_20 : decode cX7_init 20 = .ok (.aload_n 0, 1) := by decide +kernel
theorem dX7_init_21 : decode cX7_init 21 = .ok (.getfield 12, 3) := by decide +kernel
theorem dX7_init_24 : decode cX7_init 24 = .ok (.invokespecial 18, 3) := by decide +kernel
theorem dX7_init_27 : decode cX7_init 27 = .ok (.putfield 21, 3) := by decide +kernel
theorem dX7_init_30 : decode cX7_init 30 = .ok (.aload_n 0, 1) := by decide +kernel
theorem dX7_init_31 : decode cX7_init 31 = .ok (.new 25, 3) := by decide +kernel
theorem dX7_init_34 : decode cX7_init 34 = .ok (.dup, 1) := by decide +kernel
theorem dX7_init_35 : decode cX7_init 35 = .ok (.aload_n 0, 1) := by decide +kernel
theorem dX7_init_36 : decode cX7_init 36 = .ok (.getfield 21, 3) := by decide +kernel
theorem dX7_init_39 : decode cX7_init 39 = .ok (.invokespecial 27, 3) := by decide +kernel
theorem dX7_init_42 : decode cX7_init 42 = .ok (.putfield 30, 3) := by decide +kernel
theorem dX7_init_45 : decode cX7_init 45 = .ok (.aload_n 0, 1) := by decide +kernel
theorem dX7_init_46 : decode cX7_init 46 = .ok (.new 34, 3) := by decide +kernel
theorem dX7_init_49 : decode cX7_init 49 = .ok (.dup, 1) := by decide +kernel
theorem dX7_init_50 : decode cX7_init 50 = .ok (.invokespecial 36, 3) := by decide +kernel
theorem dX7_init_53 : decode cX7_init 53 = .ok (.putfield 37, 3) := by decide +kernel
theorem dX7_init_56 : decode cX7_init 56 = .ok (.aload_n 0, 1) := by decide +kernel
theorem dX7_init_57 : decode cX7_init 57 = .ok (.new 34, 3) := by decide +kernel
theorem dX7_init_60 : decode cX7_init 60 = .ok (.dup, 1) := by decide +kernel
theorem dX7_init_61 : decode cX7_init 61 = .ok (.invokespecial 36, 3) := by decide +kernel
theorem dX7_init_64 : decode cX7_init 64 = .ok (.putfield 41, 3) := by decide +kernel
theorem dX7_init_67 : decode cX7_init 67 = .ok (.aload_n 0, 1) := by decide +kernel
theorem dX7_init_68 : decode cX7_init 68 = .ok (.new 34, 3) := by decide +kernel
theorem dX7_init_71 : decode cX7_init 71 = .ok (.dup, 1) := by decide +kernel
theorem dX7_init_72 : decode cX7_init 72 = .ok (.invokespecial 36, 3) := by decide +kernel
theorem dX7_init_75 : decode cX7_init 75 = .ok (.putfield 44, 3) := by decide +kernel
theorem dX7_init_78 : decode cX7_init 78 = .ok (.aload_n 0, 1) := by decide +kernel
theorem dX7_init_79 : decode cX7_init 79 = .ok (.iconst 0, 1) := by decide +kernel
theorem dX7_init_80 : decode cX7_init 80 = .ok (.putfield 47, 3) := by decide +kernel
theorem dX7_init_83 : decode cX7_init 83 = .ok (.return_, 1) := by decide +kernel
theorem dX7_sheet_0 : decode cX7_sheet 0 = .ok (.aload_n 0, 1) := by decide +kernel
theorem dX7_sheet_1 : decode cX7_sheet 1 = .ok (.getfield 37, 3) := by decide +kernel
theorem dX7_sheet_4 : decode cX7_sheet 4 = .ok (.invokevirtual 51, 3) := by decide +kernel
theorem dX7_sheet_7 : decode cX7_sheet 7 = .ok (.istore 4, 2) := by decide +kernel
theorem dX7_sheet_9 : decode cX7_sheet 9 = .ok (.iload 4, 2) := by decide +kernel
theorem dX7_sheet_11 : decode cX7_sheet 11 = .ok (.bipush 20, 2) := by decide +kernel
theorem dX7_sheet_13 : decode cX7_sheet 13 = .ok (.if_icmp .ge 27, 3) := by decide +kernel
theorem dX7_sheet_16 : decode cX7_sheet 16 = .ok (.iload_n 1, 1) := by decide +kernel
theorem dX7_sheet_17 : decode cX7_sheet 17 = .ok (.invokestatic 55, 3) := by decide +kernel
theorem dX7_sheet_20 : decode cX7_sheet 20 = .ok (.ifCond .eq 20, 3) := by decide +kernel
theorem dX7_sheet_23 : decode cX7_sheet 23 = .ok (.iload_n 2, 1) := by decide +kernel
theorem dX7_sheet_24 : decode cX7_sheet 24 = .ok (.sipush 3000, 3) := by decide +kernel
theorem dX7_sheet_27 : decode cX7_sheet 27 = .ok (.invokestatic 59, 3) := by decide +kernel
theorem dX7_sheet_30 : decode cX7_sheet 30 = .ok (.ifCond .eq 10, 3) := by decide +kernel
theorem dX7_sheet_33 : decode cX7_sheet 33 = .ok (.iload_n 3, 1) := by decide +kernel
theorem dX7_sheet_34 : decode cX7_sheet 34 = .ok (.invokestatic 63, 3) := by decide +kernel
theorem dX7_sheet_37 : decode cX7_sheet 37 = .ok (.ifCond .ne 5, 3) := by decide +kernel
theorem dX7_sheet_40 : decode cX7_sheet 40 = .ok (.iconst (-1), 1) := by decide +kernel
theorem dX7_sheet_41 : decode cX7_sheet 41 = .ok (.ireturn, 1) := by decide +kernel
theorem dX7_sheet_42 : decode cX7_sheet 42 = .ok (.aload_n 0, 1) := by decide +kernel
theorem dX7_sheet_43 : decode cX7_sheet 43 = .ok (.getfield 37, 3) := by decide +kernel
theorem dX7_sheet_46 : decode cX7_sheet 46 = .ok (.new 66, 3) := by decide +kernel
theorem dX7_sheet_49 : decode cX7_sheet 49 = .ok (.dup, 1) := by decide +kernel
theorem dX7_sheet_50 : decode cX7_sheet 50 = .ok (.iload 4, 2) := by decide +kernel
theorem dX7_sheet_52 : decode cX7_sheet 52 = .ok (.iload_n 1, 1) := by decide +kernel
theorem dX7_sheet_53 : decode cX7_sheet 53 = .ok (.iload_n 2, 1) := by decide +kernel
theorem dX7_sheet_54 : decode cX7_sheet 54 = .ok (.iload_n 3, 1) := by decide +kernel
theorem dX7_sheet_55 : decode cX7_sheet 55 = .ok (.invokespecial 68, 3) := by decide +kernel
theorem dX7_sheet_58 : decode cX7_sheet 58 = .ok (.invokevirtual 71, 3) := by decide +kernel
theorem dX7_sheet_61 : decode cX7_sheet 61 = .ok (.pop, 1) := by decide +kernel
theorem dX7_sheet_62 : decode cX7_sheet 62 = .ok (.iload 4, 2) := by decide +kernel
theorem dX7_sheet_64 : decode cX7_sheet 64 = .ok (.ireturn, 1) := by decide +kernel
theorem dX7_note_0 : decode cX7_note 0 = .ok (.aload_n 0, 1) := by decide +kernel
theorem dX7_note_1 : decode cX7_note 1 = .ok (.iload_n 1, 1) := by decide +kernel
theorem dX7_note_2 : decode cX7_note 2 = .ok (.invokevirtual 75, 3) := by decide +kernel
theorem dX7_note_5 : decode cX7_note 5 = .ok (.astore 4, 2) := by decide +kernel
theorem dX7_note_7 : decode cX7_note 7 = .ok (.aload 4, 2) := by decide +kernel
theorem dX7_note_9 : decode cX7_note 9 = .ok (.ifnull 21, 3) := by decide +kernel
theorem dX7_note_12 : decode cX7_note 12 = .ok (.iload_n 2, 1) := by decide +kernel
theorem dX7_note_13 : decode cX7_note 13 = .ok (.iload_n 3, 1) := by decide +kernel
theorem dX7_note_14 : decode cX7_note 14 = .ok (.invokestatic 79, 3) := by decide +kernel
theorem dX7_note_17 : decode cX7_note 17 = .ok (.ifCond .eq 13, 3) := by decide +kernel
theorem dX7_note_20 : decode cX7_note 20 = .ok (.aload 4, 2) := by decide +kernel
theorem dX7_note_22 : decode cX7_note 22 = .ok (.iload_n 2, 1) := by decide +kernel
theorem dX7_note_23 : decode cX7_note 23 = .ok (.iload_n 3, 1) := by decide +kernel
theorem dX7_note_24 : decode cX7_note 24 = .ok (.invokevirtual 82, 3) := by decide +kernel
theorem dX7_note_27 : decode cX7_note 27 = .ok (.ifCond .ne 5, 3) := by decide +kernel
theorem dX7_note_30 : decode cX7_note 30 = .ok (.iconst (-1), 1) := by decide +kernel
theorem dX7_note_31 : decode cX7_note 31 = .ok (.ireturn, 1) := by decide +kernel
theorem dX7_note_32 : decode cX7_note 32 = .ok (.aload_n 0, 1) := by decide +kernel
theorem dX7_note_33 : decode cX7_note 33 = .ok (.dup, 1) := by decide +kernel
theorem dX7_note_34 : decode cX7_note 34 = .ok (.getfield 85, 3) := by decide +kernel
theorem dX7_note_37 : decode cX7_note 37 = .ok (.iconst 1, 1) := by decide +kernel
theorem dX7_note_38 : decode cX7_note 38 = .ok (.iadd, 1) := by decide +kernel
theorem dX7_note_39 : decode cX7_note 39 = .ok (.putfield 85, 3) := by decide +kernel
theorem dX7_note_42 : decode cX7_note 42 = .ok (.aload 4, 2) := by decide +kernel
theorem dX7_note_44 : decode cX7_note 44 = .ok (.invokevirtual 88, 3) := by decide +kernel
theorem dX7_note_47 : decode cX7_note 47 = .ok (.ireturn, 1) := by decide +kernel
theorem dX7_correct_0 : decode cX7_correct 0 = .ok (.aload_n 0, 1) := by decide +kernel
theorem dX7_correct_1 : decode cX7_correct 1 = .ok (.iload_n 1, 1) := by decide +kernel
theorem dX7_correct_2 : decode cX7_correct 2 = .ok (.invokevirtual 75, 3) := by decide +kernel
theorem dX7_correct_5 : decode cX7_correct 5 = .ok (.astore 5, 2) := by decide +kernel
theorem dX7_correct_7 : decode cX7_correct 7 = .ok (.aload 5, 2) := by decide +kernel
theorem dX7_correct_9 : decode cX7_correct 9 = .ok (.ifnull 31, 3) := by decide +kernel
theorem dX7_correct_12 : decode cX7_correct 12 = .ok (.aload 5, 2) := by decide +kernel
theorem dX7_correct_14 : decode cX7_correct 14 = .ok (.iload_n 2, 1) := by decide +kernel
theorem dX7_correct_15 : decode cX7_correct 15 = .ok (.invokevirtual 91, 3) := by decide +kernel
theorem dX7_correct_18 : decode cX7_correct 18 = .ok (.ifCond .eq 22, 3) := by decide +kernel
theorem dX7_correct_21 : decode cX7_correct 21 = .ok (.iload_n 3, 1) := by decide +kernel
theorem dX7_correct_22 : decode cX7_correct 22 = .ok (.iload 4, 2) := by decide +kernel
theorem dX7_correct_24 : decode cX7_correct 24 = .ok (.invokestatic 79, 3) := by decide +kernel
theorem dX7_correct_27 : decode cX7_correct 27 = .ok (.ifCond .eq 13, 3) := by decide +kernel
theorem dX7_correct_30 : decode cX7_correct 30 = .ok (.aload_n 0, 1) := by decide +kernel
theorem dX7_correct_31 : decode cX7_correct 31 = .ok (.getfield 94, 3) := by decide +kernel
theorem dX7_correct_34 : decode cX7_correct 34 = .ok (.sipush 200, 3) := by decide +kernel
theorem dX7_correct_37 : decode cX7_correct 37 = .ok (.if_icmp .lt 5, 3) := by decide +kernel
theorem dX7_correct_40 : decode cX7_correct 40 = .ok (.iconst 0, 1) := by decide +kernel
theorem dX7_correct_41 : decode cX7_correct 41 = .ok (.ireturn, 1) := by decide +kernel
theorem dX7_correct_42 : decode cX7_correct 42 = .ok (.aload 5, 2) := by decide +kernel
theorem dX7_correct_44 : decode cX7_correct 44 = .ok (.new 97, 3) := by decide +kernel
theorem dX7_correct_47 : decode cX7_correct 47 = .ok (.dup, 1) := by decide +kernel
theorem dX7_correct_48 : decode cX7_correct 48 = .ok (.aload_n 0, 1) := by decide +kernel
theorem dX7_correct_49 : decode cX7_correct 49 = .ok (.getfield 47, 3) := by decide +kernel
theorem dX7_correct_52 : decode cX7_correct 52 = .ok (.iload_n 2, 1) := by decide +kernel
theorem dX7_correct_53 : decode cX7_correct 53 = .ok (.iload_n 3, 1) := by decide +kernel
theorem dX7_correct_54 : decode cX7_correct 54 = .ok (.iload 4, 2) := by decide +kernel
theorem dX7_correct_56 : decode cX7_correct 56 = .ok (.invokespecial 99, 3) := by decide +kernel
theorem dX7_correct_59 : decode cX7_correct 59 = .ok (.invokevirtual 100, 3) := by decide +kernel
theorem dX7_correct_62 : decode cX7_correct 62 = .ok (.aload_n 0, 1) := by decide +kernel
theorem dX7_correct_63 : decode cX7_correct 63 = .ok (.dup, 1) := by decide +kernel
theorem dX7_correct_64 : decode cX7_correct 64 = .ok (.getfield 94, 3) := by decide +kernel
theorem dX7_correct_67 : decode cX7_correct 67 = .ok (.iconst 1, 1) := by decide +kernel
theorem dX7_correct_68 : decode cX7_correct 68 = .ok (.iadd, 1) := by decide +kernel
theorem dX7_correct_69 : decode cX7_correct 69 = .ok (.putfield 94, 3) := by decide +kernel
theorem dX7_correct_72 : decode cX7_correct 72 = .ok (.iconst 1, 1) := by decide +kernel
theorem dX7_correct_73 : decode cX7_correct 73 = .ok (.ireturn, 1) := by decide +kernel
theorem dX7_forge_0 : decode cX7_forge 0 = .ok (.aload_n 0, 1) := by decide +kernel
theorem dX7_forge_1 : decode cX7_forge 1 = .ok (.iload_n 1, 1) := by decide +kernel
theorem dX7_forge_2 : decode cX7_forge 2 = .ok (.invokevirtual 75, 3) := by decide +kernel
theorem dX7_forge_5 : decode cX7_forge 5 = .ok (.astore_n 2, 1) := by decide +kernel
theorem dX7_forge_6 : decode cX7_forge 6 = .ok (.aload_n 2, 1) := by decide +kernel
theorem dX7_forge_7 : decode cX7_forge 7 = .ok (.ifnull 14, 3) := by decide +kernel
theorem dX7_forge_10 : decode cX7_forge 10 = .ok (.aload_n 2, 1) := by decide +kernel
theorem dX7_forge_11 : decode cX7_forge 11 = .ok (.aload_n 0, 1) := by decide +kernel
theorem dX7_forge_12 : decode cX7_forge 12 = .ok (.getfield 47, 3) := by decide +kernel
theorem dX7_forge_15 : decode cX7_forge 15 = .ok (.invokevirtual 104, 3) := by decide +kernel
theorem dX7_forge_18 : decode cX7_forge 18 = .ok (.ifCond .eq 5, 3) := by decide +kernel
theorem dX7_forge_21 : decode cX7_forge 21 = .ok (.iconst 0, 1) := by decide +kernel
theorem dX7_forge_22 : decode cX7_forge 22 = .ok (.ireturn, 1) := by decide +kernel
theorem dX7_forge_23 : decode cX7_forge 23 = .ok (.aload_n 2, 1) := by decide +kernel
theorem dX7_forge_24 : decode cX7_forge 24 = .ok (.aload_n 0, 1) := by decide +kernel
theorem dX7_forge_25 : decode cX7_forge 25 = .ok (.getfield 47, 3) := by decide +kernel
theorem dX7_forge_28 : decode cX7_forge 28 = .ok (.invokevirtual 107, 3) := by decide +kernel
theorem dX7_forge_31 : decode cX7_forge 31 = .ok (.aload_n 0, 1) := by decide +kernel
theorem dX7_forge_32 : decode cX7_forge 32 = .ok (.dup, 1) := by decide +kernel
theorem dX7_forge_33 : decode cX7_forge 33 = .ok (.getfield 111, 3) := by decide +kernel
theorem dX7_forge_36 : decode cX7_forge 36 = .ok (.iconst 1, 1) := by decide +kernel
theorem dX7_forge_37 : decode cX7_forge 37 = .ok (.iadd, 1) := by decide +kernel
theorem dX7_forge_38 : decode cX7_forge 38 = .ok (.putfield 111, 3) := by decide +kernel
theorem dX7_forge_41 : decode cX7_forge 41 = .ok (.iconst 1, 1) := by decide +kernel
theorem dX7_forge_42 : decode cX7_forge 42 = .ok (.ireturn, 1) := by decide +kernel
theorem dX7_doubles_0 : decode cX7_doubles 0 = .ok (.aload_n 0, 1) := by decide +kernel
theorem dX7_doubles_1 : decode cX7_doubles 1 = .ok (.iload_n 1, 1) := by decide +kernel
theorem dX7_doubles_2 : decode cX7_doubles 2 = .ok (.invokevirtual 75, 3) := by decide +kernel
theorem dX7_doubles_5 : decode cX7_doubles 5 = .ok (.astore_n 3, 1) := by decide +kernel
theorem dX7_doubles_6 : decode cX7_doubles 6 = .ok (.aload_n 0, 1) := by decide +kernel
theorem dX7_doubles_7 : decode cX7_doubles 7 = .ok (.iload_n 2, 1) := by decide +kernel
theorem dX7_doubles_8 : decode cX7_doubles 8 = .ok (.invokevirtual 75, 3) := by decide +kernel
theorem dX7_doubles_11 : decode cX7_doubles 11 = .ok (.astore 4, 2) := by decide +kernel
theorem dX7_doubles_13 : decode cX7_doubles 13 = .ok (.aload_n 3, 1) := by decide +kernel
theorem dX7_doubles_14 : decode cX7_doubles 14 = .ok (.ifnull 20, 3) := by decide +kernel
theorem dX7_doubles_17 : decode cX7_doubles 17 = .ok (.aload 4, 2) := by decide +kernel
theorem dX7_doubles_19 : decode cX7_doubles 19 = .ok (.ifnull 15, 3) := by decide +kernel
theorem dX7_doubles_22 : decode cX7_doubles 22 = .ok (.aload_n 3, 1) := by decide +kernel
theorem dX7_doubles_23 : decode cX7_doubles 23 = .ok (.getfield 114, 3) := by decide +kernel
theorem dX7_doubles_26 : decode cX7_doubles 26 = .ok (.aload 4, 2) := by decide +kernel
theorem dX7_doubles_28 : decode cX7_doubles 28 = .ok (.getfield 114, 3) := by decide +kernel
theorem dX7_doubles_31 : decode cX7_doubles 31 = .ok (.if_icmp .ne 5, 3) := by decide +kernel
theorem dX7_doubles_34 : decode cX7_doubles 34 = .ok (.iconst 0, 1) := by decide +kernel
theorem dX7_doubles_35 : decode cX7_doubles 35 = .ok (.ireturn, 1) := by decide +kernel
theorem dX7_doubles_36 : decode cX7_doubles 36 = .ok (.aload_n 0, 1) := by decide +kernel
theorem dX7_doubles_37 : decode cX7_doubles 37 = .ok (.getfield 41, 3) := by decide +kernel
theorem dX7_doubles_40 : decode cX7_doubles 40 = .ok (.invokevirtual 51, 3) := by decide +kernel
theorem dX7_doubles_43 : decode cX7_doubles 43 = .ok (.bipush 60, 2) := by decide +kernel
theorem dX7_doubles_45 : decode cX7_doubles 45 = .ok (.if_icmp .ge 13, 3) := by decide +kernel
theorem dX7_doubles_48 : decode cX7_doubles 48 = .ok (.aload_n 0, 1) := by decide +kernel
theorem dX7_doubles_49 : decode cX7_doubles 49 = .ok (.aload_n 3, 1) := by decide +kernel
theorem dX7_doubles_50 : decode cX7_doubles 50 = .ok (.aload 4, 2) := by decide +kernel
theorem dX7_doubles_52 : decode cX7_doubles 52 = .ok (.invokevirtual 117, 3) := by decide +kernel
theorem dX7_doubles_55 : decode cX7_doubles 55 = .ok (.ifCond .eq 5, 3) := by decide +kernel
theorem dX7_doubles_58 : decode cX7_doubles 58 = .ok (.iconst 0, 1) := by decide +kernel
theorem dX7_doubles_59 : decode cX7_doubles 59 = .ok (.ireturn, 1) := by decide +kernel
theorem dX7_doubles_60 : decode cX7_doubles 60 = .ok (.aload_n 0, 1) := by decide +kernel
theorem dX7_doubles_61 : decode cX7_doubles 61 = .ok (.getfield 41, 3) := by decide +kernel
theorem dX7_doubles_64 : decode cX7_doubles 64 = .ok (.new 121, 3) := by decide +kernel
theorem dX7_doubles_67 : decode cX7_doubles 67 = .ok (.dup, 1) := by decide +kernel
theorem dX7_doubles_68 : decode cX7_doubles 68 = .ok (.aload_n 3, 1) := by decide +kernel
theorem dX7_doubles_69 : decode cX7_doubles 69 = .ok (.aload 4, 2) := by decide +kernel
theorem dX7_doubles_71 : decode cX7_doubles 71 = .ok (.invokespecial 123, 3) := by decide +kernel
theorem dX7_doubles_74 : decode cX7_doubles 74 = .ok (.invokevirtual 71, 3) := by decide +kernel
theorem dX7_doubles_77 : decode cX7_doubles 77 = .ok (.pop, 1) := by decide +kernel
theorem dX7_doubles_78 : decode cX7_doubles 78 = .ok (.iconst 1, 1) := by decide +kernel
theorem dX7_doubles_79 : decode cX7_doubles 79 = .ok (.ireturn, 1) := by decide +kernel
theorem dX7_days_0 : decode cX7_days 0 = .ok (.iload_n 1, 1) := by decide +kernel
theorem dX7_days_1 : decode cX7_days 1 = .ok (.sipush 1000, 3) := by decide +kernel
theorem dX7_days_4 : decode cX7_days 4 = .ok (.invokestatic 59, 3) := by decide +kernel
theorem dX7_days_7 : decode cX7_days 7 = .ok (.ifCond .eq 15, 3) := by decide +kernel
theorem dX7_days_10 : decode cX7_days 10 = .ok (.aload_n 0, 1) := by decide +kernel
theorem dX7_days_11 : decode cX7_days 11 = .ok (.getfield 47, 3) := by decide +kernel
theorem dX7_days_14 : decode cX7_days 14 = .ok (.iload_n 1, 1) := by decide +kernel
theorem dX7_days_15 : decode cX7_days 15 = .ok (.iadd, 1) := by decide +kernel
theorem dX7_days_16 : decode cX7_days 16 = .ok (.sipush 1000, 3) := by decide +kernel
theorem dX7_days_19 : decode cX7_days 19 = .ok (.if_icmp .le 5, 3) := by decide +kernel
theorem dX7_days_22 : decode cX7_days 22 = .ok (.iconst (-1), 1) := by decide +kernel
theorem dX7_days_23 : decode cX7_days 23 = .ok (.ireturn, 1) := by decide +kernel
theorem dX7_days_24 : decode cX7_days 24 = .ok (.aload_n 0, 1) := by decide +kernel
theorem dX7_days_25 : decode cX7_days 25 = .ok (.dup, 1) := by decide +kernel
theorem dX7_days_26 : decode cX7_days 26 = .ok (.getfield 47, 3) := by decide +kernel
theorem dX7_days_29 : decode cX7_days 29 = .ok (.iload_n 1, 1) := by decide +kernel
theorem dX7_days_30 : decode cX7_days 30 = .ok (.iadd, 1) := by decide +kernel
theorem dX7_days_31 : decode cX7_days 31 = .ok (.putfield 47, 3) := by decide +kernel
theorem dX7_days_34 : decode cX7_days 34 = .ok (.aload_n 0, 1) := by decide +kernel
theorem dX7_days_35 : decode cX7_days 35 = .ok (.getfield 47, 3) := by decide +kernel
theorem dX7_days_38 : decode cX7_days 38 = .ok (.ireturn, 1) := by decide +kernel
theorem dX7_price_0 : decode cX7_price 0 = .ok (.aload_n 0, 1) := by decide +kernel
theorem dX7_price_1 : decode cX7_price 1 = .ok (.getfield 12, 3) := by decide +kernel
theorem dX7_price_4 : decode cX7_price 4 = .ok (.iload_n 1, 1) := by decide +kernel
theorem dX7_price_5 : decode cX7_price 5 = .ok (.iload_n 2, 1) := by decide +kernel
theorem dX7_price_6 : decode cX7_price 6 = .ok (.invokevirtual 126, 3) := by decide +kernel
theorem dX7_price_9 : decode cX7_price 9 = .ok (.ifCond .ne 5, 3) := by decide +kernel
theorem dX7_price_12 : decode cX7_price 12 = .ok (.iconst 0, 1) := by decide +kernel
theorem dX7_price_13 : decode cX7_price 13 = .ok (.ireturn, 1) := by decide +kernel
theorem dX7_price_14 : decode cX7_price 14 = .ok (.aload_n 0, 1) := by decide +kernel
theorem dX7_price_15 : decode cX7_price 15 = .ok (.getfield 30, 3) := by decide +kernel
theorem dX7_price_18 : decode cX7_price 18 = .ok (.invokevirtual 129, 3) := by decide +kernel
theorem dX7_price_21 : decode cX7_price 21 = .ok (.iconst 1, 1) := by decide +kernel
theorem dX7_price_22 : decode cX7_price 22 = .ok (.ireturn, 1) := by decide +kernel
theorem dX7_at_0 : decode cX7_at 0 = .ok (.aload_n 0, 1) := by decide +kernel
theorem dX7_at_1 : decode cX7_at 1 = .ok (.iload_n 1, 1) := by decide +kernel
theorem dX7_at_2 : decode cX7_at 2 = .ok (.invokevirtual 75, 3) := by decide +kernel
theorem dX7_at_5 : decode cX7_at 5 = .ok (.astore 5, 2) := by decide +kernel
theorem dX7_at_7 : decode cX7_at 7 = .ok (.aload 5, 2) := by decide +kernel
theorem dX7_at_9 : decode cX7_at 9 = .ok (.ifnull 29, 3) := by decide +kernel
theorem dX7_at_12 : decode cX7_at 12 = .ok (.aload 5, 2) := by decide +kernel
theorem dX7_at_14 : decode cX7_at 14 = .ok (.iload_n 2, 1) := by decide +kernel
theorem dX7_at_15 : decode cX7_at 15 = .ok (.invokevirtual 91, 3) := by decide +kernel
theorem dX7_at_18 : decode cX7_at 18 = .ok (.ifCond .eq 20, 3) := by decide +kernel
theorem dX7_at_21 : decode cX7_at 21 = .ok (.aload_n 0, 1) := by decide +kernel
theorem dX7_at_22 : decode cX7_at 22 = .ok (.iload_n 3, 1) := by decide +kernel
theorem dX7_at_23 : decode cX7_at 23 = .ok (.invokevirtual 132, 3) := by decide +kernel
theorem dX7_at_26 : decode cX7_at 26 = .ok (.ifCond .eq 12, 3) := by decide +kernel
theorem dX7_at_29 : decode cX7_at 29 = .ok (.iload 4, 2) := by decide +kernel
theorem dX7_at_31 : decode cX7_at 31 = .ok (.iconst 1, 1) := by decide +kernel
theorem dX7_at_32 : decode cX7_at 32 = .ok (.invokestatic 59, 3) := by decide +kernel
theorem dX7_at_35 : decode cX7_at 35 = .ok (.ifCond .ne 11, 3) := by decide +kernel
theorem dX7_at_38 : decode cX7_at 38 = .ok (.new 135, 3) := by decide +kernel
theorem dX7_at_41 : decode cX7_at 41 = .ok (.dup, 1) := by decide +kernel
theorem dX7_at_42 : decode cX7_at 42 = .ok (.invokespecial 137, 3) := by decide +kernel
theorem dX7_at_45 : decode cX7_at 45 = .ok (.athrow, 1) := by decide +kernel
theorem dX7_at_46 : decode cX7_at 46 = .ok (.aload_n 0, 1) := by decide +kernel
theorem dX7_at_47 : decode cX7_at 47 = .ok (.iload_n 3, 1) := by decide +kernel
theorem dX7_at_48 : decode cX7_at 48 = .ok (.invokevirtual 138, 3) := by decide +kernel
theorem dX7_at_51 : decode cX7_at 51 = .ok (.iload 4, 2) := by decide +kernel
theorem dX7_at_53 : decode cX7_at 53 = .ok (.ifCond .ne 15, 3) := by decide +kernel
theorem dX7_at_56 : decode cX7_at 56 = .ok (.aload 5, 2) := by decide +kernel
theorem dX7_at_58 : decode cX7_at 58 = .ok (.getfield 141, 3) := by decide +kernel
theorem dX7_at_61 : decode cX7_at 61 = .ok (.iload_n 2, 1) := by decide +kernel
theorem dX7_at_62 : decode cX7_at 62 = .ok (.invokevirtual 145, 3) := by decide +kernel
theorem dX7_at_65 : decode cX7_at 65 = .ok (.goto 12, 3) := by decide +kernel
theorem dX7_at_68 : decode cX7_at 68 = .ok (.aload 5, 2) := by decide +kernel
theorem dX7_at_70 : decode cX7_at 70 = .ok (.getfield 141, 3) := by decide +kernel
theorem dX7_at_73 : decode cX7_at 73 = .ok (.iload_n 2, 1) := by decide +kernel
theorem dX7_at_74 : decode cX7_at 74 = .ok (.invokevirtual 151, 3) := by decide +kernel
theorem dX7_at_77 : decode cX7_at 77 = .ok (.ireturn, 1) := by decide +kernel
theorem dX7_distance_0 : decode cX7_distance 0 = .ok (.aload_n 0, 1) := by decide +kernel
theorem dX7_distance_1 : decode cX7_distance 1 = .ok (.iload_n 1, 1) := by decide +kernel
theorem dX7_distance_2 : decode cX7_distance 2 = .ok (.invokevirtual 75, 3) := by decide +kernel
theorem dX7_distance_5 : decode cX7_distance 5 = .ok (.astore 4, 2) := by decide +kernel
theorem dX7_distance_7 : decode cX7_distance 7 = .ok (.aload_n 0, 1) := by decide +kernel
theorem dX7_distance_8 : decode cX7_distance 8 = .ok (.iload_n 2, 1) := by decide +kernel
theorem dX7_distance_9 : decode cX7_distance 9 = .ok (.invokevirtual 75, 3) := by decide +kernel
theorem dX7_distance_12 : decode cX7_distance 12 = .ok (.astore 5, 2) := by decide +kernel
theorem dX7_distance_14 : decode cX7_distance 14 = .ok (.aload 4, 2) := by decide +kernel
theorem dX7_distance_16 : decode cX7_distance 16 = .ok (.ifnull 16, 3) := by decide +kernel
theorem dX7_distance_19 : decode cX7_distance 19 = .ok (.aload 5, 2) := by decide +kernel
theorem dX7_distance_21 : decode cX7_distance 21 = .ok (.ifnull 11, 3) := by decide +kernel
theorem dX7_distance_24 : decode cX7_distance 24 = .ok (.aload_n 0, 1) := by decide +kernel
theorem dX7_distance_25 : decode cX7_distance 25 = .ok (.iload_n 3, 1) := by decide +kernel
theorem dX7_distance_26 : decode cX7_distance 26 = .ok (.invokevirtual 132, 3) := by decide +kernel
theorem dX7_distance_29 : decode cX7_distance 29 = .ok (.ifCond .ne 5, 3) := by decide +kernel
theorem dX7_distance_32 : decode cX7_distance 32 = .ok (.iconst (-1), 1) := by decide +kernel
theorem dX7_distance_33 : decode cX7_distance 33 = .ok (.ireturn, 1) := by decide +kernel
theorem dX7_distance_34 : decode cX7_distance 34 = .ok (.aload_n 0, 1) := by decide +kernel
theorem dX7_distance_35 : decode cX7_distance 35 = .ok (.iload_n 3, 1) := by decide +kernel
theorem dX7_distance_36 : decode cX7_distance 36 = .ok (.invokevirtual 138, 3) := by decide +kernel
theorem dX7_distance_39 : decode cX7_distance 39 = .ok (.aload_n 0, 1) := by decide +kernel
theorem dX7_distance_40 : decode cX7_distance 40 = .ok (.getfield 30, 3) := by decide +kernel
theorem dX7_distance_43 : decode cX7_distance 43 = .ok (.aload 4, 2) := by decide +kernel
theorem dX7_distance_45 : decode cX7_distance 45 = .ok (.aload 5, 2) := by decide +kernel
theorem dX7_distance_47 : decode cX7_distance 47 = .ok (.invokevirtual 154, 3) := by decide +kernel
theorem dX7_distance_50 : decode cX7_distance 50 = .ok (.ireturn, 1) := by decide +kernel
theorem dX7_key_0 : decode cX7_key 0 = .ok (.aload_n 0, 1) := by decide +kernel
theorem dX7_key_1 : decode cX7_key 1 = .ok (.iload_n 1, 1) := by decide +kernel
theorem dX7_key_2 : decode cX7_key 2 = .ok (.invokevirtual 75, 3) := by decide +kernel
theorem dX7_key_5 : decode cX7_key 5 = .ok (.astore 4, 2) := by decide +kernel
theorem dX7_key_7 : decode cX7_key 7 = .ok (.aload_n 0, 1) := by decide +kernel
theorem dX7_key_8 : decode cX7_key 8 = .ok (.iload_n 2, 1) := by decide +kernel
theorem dX7_key_9 : decode cX7_key 9 = .ok (.invokevirtual 75, 3) := by decide +kernel
theorem dX7_key_12 : decode cX7_key 12 = .ok (.astore 5, 2) := by decide +kernel
theorem dX7_key_14 : decode cX7_key 14 = .ok (.aload 4, 2) := by decide +kernel
theorem dX7_key_16 : decode cX7_key 16 = .ok (.ifnull 16, 3) := by decide +kernel
theorem dX7_key_19 : decode cX7_key 19 = .ok (.aload 5, 2) := by decide +kernel
theorem dX7_key_21 : decode cX7_key 21 = .ok (.ifnull 11, 3) := by decide +kernel
theorem dX7_key_24 : decode cX7_key 24 = .ok (.aload_n 0, 1) := by decide +kernel
theorem dX7_key_25 : decode cX7_key 25 = .ok (.iload_n 3, 1) := by decide +kernel
theorem dX7_key_26 : decode cX7_key 26 = .ok (.invokevirtual 132, 3) := by decide +kernel
theorem dX7_key_29 : decode cX7_key 29 = .ok (.ifCond .ne 6, 3) := by decide +kernel
theorem dX7_key_32 : decode cX7_key 32 = .ok (.bipush 100, 2) := by decide +kernel
theorem dX7_key_34 : decode cX7_key 34 = .ok (.ireturn, 1) := by decide +kernel
theorem dX7_key_35 : decode cX7_key 35 = .ok (.aload_n 0, 1) := by decide +kernel
theorem dX7_key_36 : decode cX7_key 36 = .ok (.iload_n 3, 1) := by decide +kernel
theorem dX7_key_37 : decode cX7_key 37 = .ok (.invokevirtual 138, 3) := by decide +kernel
theorem dX7_key_40 : decode cX7_key 40 = .ok (.aload_n 0, 1) := by decide +kernel
theorem dX7_key_41 : decode cX7_key 41 = .ok (.getfield 30, 3) := by decide +kernel
theorem dX7_key_44 : decode cX7_key 44 = .ok (.aload 4, 2) := by decide +kernel
theorem dX7_key_46 : decode cX7_key 46 = .ok (.aload 5, 2) := by decide +kernel
theorem dX7_key_48 : decode cX7_key 48 = .ok (.invokevirtual 158, 3) := by decide +kernel
theorem dX7_key_51 : decode cX7_key 51 = .ok (.ireturn, 1) := by decide +kernel
theorem dX7_column_0 : decode cX7_column 0 = .ok (.aload_n 0, 1) := by decide +kernel
theorem dX7_column_1 : decode cX7_column 1 = .ok (.iload_n 1, 1) := by decide +kernel
theorem dX7_column_2 : decode cX7_column 2 = .ok (.invokevirtual 75, 3) := by decide +kernel
theorem dX7_column_5 : decode cX7_column 5 = .ok (.astore 6, 2) := by decide +kernel
theorem dX7_column_7 : decode cX7_column 7 = .ok (.aload_n 0, 1) := by decide +kernel
theorem dX7_column_8 : decode cX7_column 8 = .ok (.iload_n 2, 1) := by decide +kernel
theorem dX7_column_9 : decode cX7_column 9 = .ok (.invokevirtual 75, 3) := by decide +kernel
theorem dX7_column_12 : decode cX7_column 12 = .ok (.astore 7, 2) := by decide +kernel
theorem dX7_column_14 : decode cX7_column 14 = .ok (.aload 6, 2) := by decide +kernel
theorem dX7_column_16 : decode cX7_column 16 = .ok (.ifnull 16, 3) := by decide +kernel
theorem dX7_column_19 : decode cX7_column 19 = .ok (.aload 7, 2) := by decide +kernel
theorem dX7_column_21 : decode cX7_column 21 = .ok (.ifnull 11, 3) := by decide +kernel
theorem dX7_column_24 : decode cX7_column 24 = .ok (.aload_n 0, 1) := by decide +kernel
theorem dX7_column_25 : decode cX7_column 25 = .ok (.iload_n 3, 1) := by decide +kernel
theorem dX7_column_26 : decode cX7_column 26 = .ok (.invokevirtual 132, 3) := by decide +kernel
theorem dX7_column_29 : decode cX7_column 29 = .ok (.ifCond .ne 5, 3) := by decide +kernel
theorem dX7_column_32 : decode cX7_column 32 = .ok (.iconst (-1), 1) := by decide +kernel
theorem dX7_column_33 : decode cX7_column 33 = .ok (.ireturn, 1) := by decide +kernel
theorem dX7_column_34 : decode cX7_column 34 = .ok (.aload_n 0, 1) := by decide +kernel
theorem dX7_column_35 : decode cX7_column 35 = .ok (.iload_n 3, 1) := by decide +kernel
theorem dX7_column_36 : decode cX7_column 36 = .ok (.invokevirtual 138, 3) := by decide +kernel
theorem dX7_column_39 : decode cX7_column 39 = .ok (.aload_n 0, 1) := by decide +kernel
theorem dX7_column_40 : decode cX7_column 40 = .ok (.aload 6, 2) := by decide +kernel
theorem dX7_column_42 : decode cX7_column 42 = .ok (.aload 7, 2) := by decide +kernel
theorem dX7_column_44 : decode cX7_column 44 = .ok (.invokevirtual 161, 3) := by decide +kernel
theorem dX7_column_47 : decode cX7_column 47 = .ok (.aload_n 0, 1) := by decide +kernel
theorem dX7_column_48 : decode cX7_column 48 = .ok (.getfield 21, 3) := by decide +kernel
theorem dX7_column_51 : decode cX7_column 51 = .ok (.iload 4, 2) := by decide +kernel
theorem dX7_column_53 : decode cX7_column 53 = .ok (.iload 5, 2) := by decide +kernel
theorem dX7_column_55 : decode cX7_column 55 = .ok (.invokevirtual 164, 3) := by decide +kernel
theorem dX7_column_58 : decode cX7_column 58 = .ok (.ireturn, 1) := by decide +kernel
theorem dX7_family_0 : decode cX7_family 0 = .ok (.aload_n 0, 1) := by decide +kernel
theorem dX7_family_1 : decode cX7_family 1 = .ok (.iload_n 1, 1) := by decide +kernel
theorem dX7_family_2 : decode cX7_family 2 = .ok (.iload_n 2, 1) := by decide +kernel
theorem dX7_family_3 : decode cX7_family 3 = .ok (.iload_n 3, 1) := by decide +kernel
theorem dX7_family_4 : decode cX7_family 4 = .ok (.invokevirtual 168, 3) := by decide +kernel
theorem dX7_family_7 : decode cX7_family 7 = .ok (.ifCond .ne 5, 3) := by decide +kernel
theorem dX7_family_10 : decode cX7_family 10 = .ok (.iconst (-1), 1) := by decide +kernel
theorem dX7_family_11 : decode cX7_family 11 = .ok (.ireturn, 1) := by decide +kernel
theorem dX7_family_12 : decode cX7_family 12 = .ok (.bipush 20, 2) := by decide +kernel
theorem dX7_family_14 : decode cX7_family 14 = .ok (.istore 4, 2) := by decide +kernel
theorem dX7_family_16 : decode cX7_family 16 = .ok (.iconst 0, 1) := by decide +kernel
theorem dX7_family_17 : decode cX7_family 17 = .ok (.istore 5, 2) := by decide +kernel
theorem dX7_family_19 : decode cX7_family 19 = .ok (.iload 5, 2) := by decide +kernel
theorem dX7_family_21 : decode cX7_family 21 = .ok (.aload_n 0, 1) := by decide +kernel
theorem dX7_family_22 : decode cX7_family 22 = .ok (.getfield 44, 3) := by decide +kernel
theorem dX7_family_25 : decode cX7_family 25 = .ok (.invokevirtual 51, 3) := by decide +kernel
theorem dX7_family_28 : decode cX7_family 28 = .ok (.if_icmp .ge 31, 3) := by decide +kernel
theorem dX7_family_31 : decode cX7_family 31 = .ok (.iload 4, 2) := by decide +kernel
theorem dX7_family_33 : decode cX7_family 33 = .ok (.aload_n 0, 1) := by decide +kernel
theorem dX7_family_34 : decode cX7_family 34 = .ok (.getfield 44, 3) := by decide +kernel
theorem dX7_family_37 : decode cX7_family 37 = .ok (.iload 5, 2) := by decide +kernel
theorem dX7_family_39 : decode cX7_family 39 = .ok (.invokevirtual 172, 3) := by decide +kernel
theorem dX7_family_42 : decode cX7_family 42 = .ok (.checkcast 66, 3) := by decide +kernel
theorem dX7_family_45 : decode cX7_family 45 = .ok (.getfield 176, 3) := by decide +kernel
theorem dX7_family_48 : decode cX7_family 48 = .ok (.invokestatic 179, 3) := by decide +kernel
theorem dX7_family_51 : decode cX7_family 51 = .ok (.istore 4, 2) := by decide +kernel
theorem dX7_family_53 : decode cX7_family 53 = .ok (.iinc 5 1, 3) := by decide +kernel
theorem dX7_family_56 : decode cX7_family 56 = .ok (.goto (-37), 3) := by decide +kernel
theorem dX7_family_59 : decode cX7_family 59 = .ok (.iload 4, 2) := by decide +kernel
theorem dX7_family_61 : decode cX7_family 61 = .ok (.ireturn, 1) := by decide +kernel
theorem dX7_kin_0 : decode cX7_kin 0 = .ok (.aload_n 0, 1) := by decide +kernel
theorem dX7_kin_1 : decode cX7_kin 1 = .ok (.iload_n 1, 1) := by decide +kernel
theorem dX7_kin_2 : decode cX7_kin 2 = .ok (.iload_n 2, 1) := by decide +kernel
theorem dX7_kin_3 : decode cX7_kin 3 = .ok (.iload_n 3, 1) := by decide +kernel
theorem dX7_kin_4 : decode cX7_kin 4 = .ok (.invokevirtual 168, 3) := by decide +kernel
theorem dX7_kin_7 : decode cX7_kin 7 = .ok (.ifCond .eq 13, 3) := by decide +kernel
theorem dX7_kin_10 : decode cX7_kin 10 = .ok (.aload_n 0, 1) := by decide +kernel
theorem dX7_kin_11 : decode cX7_kin 11 = .ok (.getfield 44, 3) := by decide +kernel
theorem dX7_kin_14 : decode cX7_kin 14 = .ok (.invokevirtual 51, 3) := by decide +kernel
theorem dX7_kin_17 : decode cX7_kin 17 = .ok (.goto 4, 3) := by decide +kernel
theorem dX7_kin_20 : decode cX7_kin 20 = .ok (.iconst (-1), 1) := by decide +kernel
theorem dX7_kin_21 : decode cX7_kin 21 = .ok (.ireturn, 1) := by decide +kernel
theorem dX7_sung_0 : decode cX7_sung 0 = .ok (.aload_n 0, 1) := by decide +kernel
theorem dX7_sung_1 : decode cX7_sung 1 = .ok (.iload_n 1, 1) := by decide +kernel
theorem dX7_sung_2 : decode cX7_sung 2 = .ok (.iload_n 2, 1) := by decide +kernel
theorem dX7_sung_3 : decode cX7_sung 3 = .ok (.iload_n 3, 1) := by decide +kernel
theorem dX7_sung_4 : decode cX7_sung 4 = .ok (.invokevirtual 168, 3) := by decide +kernel
theorem dX7_sung_7 : decode cX7_sung 7 = .ok (.ifCond .ne 5, 3) := by decide +kernel
theorem dX7_sung_10 : decode cX7_sung 10 = .ok (.iconst (-1), 1) := by decide +kernel
theorem dX7_sung_11 : decode cX7_sung 11 = .ok (.ireturn, 1) := by decide +kernel
theorem dX7_sung_12 : decode cX7_sung 12 = .ok (.iconst 0, 1) := by decide +kernel
theorem dX7_sung_13 : decode cX7_sung 13 = .ok (.istore 4, 2) := by decide +kernel
theorem dX7_sung_15 : decode cX7_sung 15 = .ok (.iconst 0, 1) := by decide +kernel
theorem dX7_sung_16 : decode cX7_sung 16 = .ok (.istore 5, 2) := by decide +kernel
theorem dX7_sung_18 : decode cX7_sung 18 = .ok (.iload 5, 2) := by decide +kernel
theorem dX7_sung_20 : decode cX7_sung 20 = .ok (.aload_n 0, 1) := by decide +kernel
theorem dX7_sung_21 : decode cX7_sung 21 = .ok (.getfield 44, 3) := by decide +kernel
theorem dX7_sung_24 : decode cX7_sung 24 = .ok (.invokevirtual 51, 3) := by decide +kernel
theorem dX7_sung_27 : decode cX7_sung 27 = .ok (.if_icmp .ge 31, 3) := by decide +kernel
theorem dX7_sung_30 : decode cX7_sung 30 = .ok (.iload 4, 2) := by decide +kernel
theorem dX7_sung_32 : decode cX7_sung 32 = .ok (.iconst 1, 1) := by decide +kernel
theorem dX7_sung_33 : decode cX7_sung 33 = .ok (.aload_n 0, 1) := by decide +kernel
theorem dX7_sung_34 : decode cX7_sung 34 = .ok (.getfield 44, 3) := by decide +kernel
theorem dX7_sung_37 : decode cX7_sung 37 = .ok (.iload 5, 2) := by decide +kernel
theorem dX7_sung_39 : decode cX7_sung 39 = .ok (.invokevirtual 172, 3) := by decide +kernel
theorem dX7_sung_42 : decode cX7_sung 42 = .ok (.checkcast 66, 3) := by decide +kernel
theorem dX7_sung_45 : decode cX7_sung 45 = .ok (.getfield 184, 3) := by decide +kernel
theorem dX7_sung_48 : decode cX7_sung 48 = .ok (.ishl, 1) := by decide +kernel
theorem dX7_sung_49 : decode cX7_sung 49 = .ok (.ior, 1) := by decide +kernel
theorem dX7_sung_50 : decode cX7_sung 50 = .ok (.istore 4, 2) := by decide +kernel
theorem dX7_sung_52 : decode cX7_sung 52 = .ok (.iinc 5 1, 3) := by decide +kernel
theorem dX7_sung_55 : decode cX7_sung 55 = .ok (.goto (-37), 3) := by decide +kernel
theorem dX7_sung_58 : decode cX7_sung 58 = .ok (.iload 4, 2) := by decide +kernel
theorem dX7_sung_60 : decode cX7_sung 60 = .ok (.ireturn, 1) := by decide +kernel
theorem dX7_source_0 : decode cX7_source 0 = .ok (.aload_n 0, 1) := by decide +kernel
theorem dX7_source_1 : decode cX7_source 1 = .ok (.iload_n 1, 1) := by decide +kernel
theorem dX7_source_2 : decode cX7_source 2 = .ok (.iload_n 2, 1) := by decide +kernel
theorem dX7_source_3 : decode cX7_source 3 = .ok (.invokevirtual 187, 3) := by decide +kernel
theorem dX7_source_6 : decode cX7_source 6 = .ok (.astore_n 3, 1) := by decide +kernel
theorem dX7_source_7 : decode cX7_source 7 = .ok (.aload_n 3, 1) := by decide +kernel
theorem dX7_source_8 : decode cX7_source 8 = .ok (.ifnonnull 5, 3) := by decide +kernel
theorem dX7_source_11 : decode cX7_source 11 = .ok (.iconst (-1), 1) := by decide +kernel
theorem dX7_source_12 : decode cX7_source 12 = .ok (.ireturn, 1) := by decide +kernel
theorem dX7_source_13 : decode cX7_source 13 = .ok (.aload_n 0, 1) := by decide +kernel
theorem dX7_source_14 : decode cX7_source 14 = .ok (.iload_n 2, 1) := by decide +kernel
theorem dX7_source_15 : decode cX7_source 15 = .ok (.invokevirtual 138, 3) := by decide +kernel
theorem dX7_source_18 : decode cX7_source 18 = .ok (.aload_n 0, 1) := by decide +kernel
theorem dX7_source_19 : decode cX7_source 19 = .ok (.aload_n 3, 1) := by decide +kernel
theorem dX7_source_20 : decode cX7_source 20 = .ok (.iload_n 2, 1) := by decide +kernel
theorem dX7_source_21 : decode cX7_source 21 = .ok (.invokevirtual 191, 3) := by decide +kernel
theorem dX7_source_24 : decode cX7_source 24 = .ok (.astore 4, 2) := by decide +kernel
theorem dX7_source_26 : decode cX7_source 26 = .ok (.aload 4, 2) := by decide +kernel
theorem dX7_source_28 : decode cX7_source 28 = .ok (.ifnonnull 7, 3) := by decide +kernel
theorem dX7_source_31 : decode cX7_source 31 = .ok (.iconst (-1), 1) := by decide +kernel
theorem dX7_source_32 : decode cX7_source 32 = .ok (.goto 8, 3) := by decide +kernel
theorem dX7_source_35 : decode cX7_source 35 = .ok (.aload 4, 2) := by decide +kernel
theorem dX7_source_37 : decode cX7_source 37 = .ok (.getfield 176, 3) := by decide +kernel
theorem dX7_source_40 : decode cX7_source 40 = .ok (.ireturn, 1) := by decide +kernel
theorem dX7_changes_0 : decode cX7_changes 0 = .ok (.aload_n 0, 1) := by decide +kernel
theorem dX7_changes_1 : decode cX7_changes 1 = .ok (.iload_n 1, 1) := by decide +kernel
theorem dX7_changes_2 : decode cX7_changes 2 = .ok (.iload_n 2, 1) := by decide +kernel
theorem dX7_changes_3 : decode cX7_changes 3 = .ok (.invokevirtual 187, 3) := by decide +kernel
theorem dX7_changes_6 : decode cX7_changes 6 = .ok (.astore_n 3, 1) := by decide +kernel
theorem dX7_changes_7 : decode cX7_changes 7 = .ok (.aload_n 3, 1) := by decide +kernel
theorem dX7_changes_8 : decode cX7_changes 8 = .ok (.ifnonnull 5, 3) := by decide +kernel
theorem dX7_changes_11 : decode cX7_changes 11 = .ok (.iconst (-1), 1) := by decide +kernel
theorem dX7_changes_12 : decode cX7_changes 12 = .ok (.ireturn, 1) := by decide +kernel
theorem dX7_changes_13 : decode cX7_changes 13 = .ok (.aload_n 0, 1) := by decide +kernel
theorem dX7_changes_14 : decode cX7_changes 14 = .ok (.iload_n 2, 1) := by decide +kernel
theorem dX7_changes_15 : decode cX7_changes 15 = .ok (.invokevirtual 138, 3) := by decide +kernel
theorem dX7_changes_18 : decode cX7_changes 18 = .ok (.aload_n 0, 1) := by decide +kernel
theorem dX7_changes_19 : decode cX7_changes 19 = .ok (.aload_n 3, 1) := by decide +kernel
theorem dX7_changes_20 : decode cX7_changes 20 = .ok (.iload_n 2, 1) := by decide +kernel
theorem dX7_changes_21 : decode cX7_changes 21 = .ok (.invokevirtual 195, 3) := by decide +kernel
theorem dX7_changes_24 : decode cX7_changes 24 = .ok (.ireturn, 1) := by decide +kernel
theorem dX7_all_0 : decode cX7_all 0 = .ok (.aload_n 0, 1) := by decide +kernel
theorem dX7_all_1 : decode cX7_all 1 = .ok (.iload_n 1, 1) := by decide +kernel
theorem dX7_all_2 : decode cX7_all 2 = .ok (.invokevirtual 132, 3) := by decide +kernel
theorem dX7_all_5 : decode cX7_all 5 = .ok (.ifCond .ne 5, 3) := by decide +kernel
theorem dX7_all_8 : decode cX7_all 8 = .ok (.iconst (-1), 1) := by decide +kernel
theorem dX7_all_9 : decode cX7_all 9 = .ok (.ireturn, 1) := by decide +kernel
theorem dX7_all_10 : decode cX7_all 10 = .ok (.aload_n 0, 1) := by decide +kernel
theorem dX7_all_11 : decode cX7_all 11 = .ok (.iload_n 1, 1) := by decide +kernel
theorem dX7_all_12 : decode cX7_all 12 = .ok (.invokevirtual 138, 3) := by decide +kernel
theorem dX7_all_15 : decode cX7_all 15 = .ok (.iconst 0, 1) := by decide +kernel
theorem dX7_all_16 : decode cX7_all 16 = .ok (.istore_n 2, 1) := by decide +kernel
theorem dX7_all_17 : decode cX7_all 17 = .ok (.iconst 0, 1) := by decide +kernel
theorem dX7_all_18 : decode cX7_all 18 = .ok (.istore_n 3, 1) := by decide +kernel
theorem dX7_all_19 : decode cX7_all 19 = .ok (.iload_n 3, 1) := by decide +kernel
theorem dX7_all_20 : decode cX7_all 20 = .ok (.aload_n 0, 1) := by decide +kernel
theorem dX7_all_21 : decode cX7_all 21 = .ok (.getfield 37, 3) := by decide +kernel
theorem dX7_all_24 : decode cX7_all 24 = .ok (.invokevirtual 51, 3) := by decide +kernel
theorem dX7_all_27 : decode cX7_all 27 = .ok (.if_icmp .ge 45, 3) := by decide +kernel
theorem dX7_all_30 : decode cX7_all 30 = .ok (.aload_n 0, 1) := by decide +kernel
theorem dX7_all_31 : decode cX7_all 31 = .ok (.getfield 37, 3) := by decide +kernel
theorem dX7_all_34 : decode cX7_all 34 = .ok (.iload_n 3, 1) := by decide +kernel
theorem dX7_all_35 : decode cX7_all 35 = .ok (.invokevirtual 172, 3) := by decide +kernel
theorem dX7_all_38 : decode cX7_all 38 = .ok (.checkcast 66, 3) := by decide +kernel
theorem dX7_all_41 : decode cX7_all 41 = .ok (.astore 4, 2) := by decide +kernel
theorem dX7_all_43 : decode cX7_all 43 = .ok (.iload_n 2, 1) := by decide +kernel
theorem dX7_all_44 : decode cX7_all 44 = .ok (.aload 4, 2) := by decide +kernel
theorem dX7_all_46 : decode cX7_all 46 = .ok (.iload_n 1, 1) := by decide +kernel
theorem dX7_all_47 : decode cX7_all 47 = .ok (.invokevirtual 104, 3) := by decide +kernel
theorem dX7_all_50 : decode cX7_all 50 = .ok (.ifCond .eq 7, 3) := by decide +kernel
theorem dX7_all_53 : decode cX7_all 53 = .ok (.iconst 0, 1) := by decide +kernel
theorem dX7_all_54 : decode cX7_all 54 = .ok (.goto 10, 3) := by decide +kernel
theorem dX7_all_57 : decode cX7_all 57 = .ok (.aload_n 0, 1) := by decide +kernel
theorem dX7_all_58 : decode cX7_all 58 = .ok (.aload 4, 2) := by decide +kernel
theorem dX7_all_60 : decode cX7_all 60 = .ok (.iload_n 1, 1) := by decide +kernel
theorem dX7_all_61 : decode cX7_all 61 = .ok (.invokevirtual 195, 3) := by decide +kernel
theorem dX7_all_64 : decode cX7_all 64 = .ok (.iadd, 1) := by decide +kernel
theorem dX7_all_65 : decode cX7_all 65 = .ok (.istore_n 2, 1) := by decide +kernel
theorem dX7_all_66 : decode cX7_all 66 = .ok (.iinc 3 1, 3) := by decide +kernel
theorem dX7_all_69 : decode cX7_all 69 = .ok (.goto (-50), 3) := by decide +kernel
theorem dX7_all_72 : decode cX7_all 72 = .ok (.iload_n 2, 1) := by decide +kernel
theorem dX7_all_73 : decode cX7_all 73 = .ok (.ireturn, 1) := by decide +kernel
theorem dX7_doubt_0 : decode cX7_doubt 0 = .ok (.aload_n 0, 1) := by decide +kernel
theorem dX7_doubt_1 : decode cX7_doubt 1 = .ok (.iload_n 1, 1) := by decide +kernel
theorem dX7_doubt_2 : decode cX7_doubt 2 = .ok (.iload_n 3, 1) := by decide +kernel
theorem dX7_doubt_3 : decode cX7_doubt 3 = .ok (.invokevirtual 187, 3) := by decide +kernel
theorem dX7_doubt_6 : decode cX7_doubt 6 = .ok (.astore 4, 2) := by decide +kernel
theorem dX7_doubt_8 : decode cX7_doubt 8 = .ok (.aload 4, 2) := by decide +kernel
theorem dX7_doubt_10 : decode cX7_doubt 10 = .ok (.ifnull 13, 3) := by decide +kernel
theorem dX7_doubt_13 : decode cX7_doubt 13 = .ok (.iload_n 2, 1) := by decide +kernel
theorem dX7_doubt_14 : decode cX7_doubt 14 = .ok (.sipush 10000, 3) := by decide +kernel
theorem dX7_doubt_17 : decode cX7_doubt 17 = .ok (.invokestatic 59, 3) := by decide +kernel
theorem dX7_doubt_20 : decode cX7_doubt 20 = .ok (.ifCond .ne 5, 3) := by decide +kernel
theorem dX7_doubt_23 : decode cX7_doubt 23 = .ok (.iconst (-1), 1) := by decide +kernel
theorem dX7_doubt_24 : decode cX7_doubt 24 = .ok (.ireturn, 1) := by decide +kernel
theorem dX7_doubt_25 : decode cX7_doubt 25 = .ok (.aload_n 0, 1) := by decide +kernel
theorem dX7_doubt_26 : decode cX7_doubt 26 = .ok (.iload_n 3, 1) := by decide +kernel
theorem dX7_doubt_27 : decode cX7_doubt 27 = .ok (.invokevirtual 138, 3) := by decide +kernel
theorem dX7_doubt_30 : decode cX7_doubt 30 = .ok (.aload_n 0, 1) := by decide +kernel
theorem dX7_doubt_31 : decode cX7_doubt 31 = .ok (.aload 4, 2) := by decide +kernel
theorem dX7_doubt_33 : decode cX7_doubt 33 = .ok (.iload_n 3, 1) := by decide +kernel
theorem dX7_doubt_34 : decode cX7_doubt 34 = .ok (.invokevirtual 191, 3) := by decide +kernel
theorem dX7_doubt_37 : decode cX7_doubt 37 = .ok (.astore 5, 2) := by decide +kernel
theorem dX7_doubt_39 : decode cX7_doubt 39 = .ok (.aload 5, 2) := by decide +kernel
theorem dX7_doubt_41 : decode cX7_doubt 41 = .ok (.ifnonnull 7, 3) := by decide +kernel
theorem dX7_doubt_44 : decode cX7_doubt 44 = .ok (.iconst 0, 1) := by decide +kernel
theorem dX7_doubt_45 : decode cX7_doubt 45 = .ok (.goto 13, 3) := by decide +kernel
theorem dX7_doubt_48 : decode cX7_doubt 48 = .ok (.aload_n 0, 1) := by decide +kernel
theorem dX7_doubt_49 : decode cX7_doubt 49 = .ok (.aload 4, 2) := by decide +kernel
theorem dX7_doubt_51 : decode cX7_doubt 51 = .ok (.aload 5, 2) := by decide +kernel
theorem dX7_doubt_53 : decode cX7_doubt 53 = .ok (.iload_n 2, 1) := by decide +kernel
theorem dX7_doubt_54 : decode cX7_doubt 54 = .ok (.iload_n 3, 1) := by decide +kernel
theorem dX7_doubt_55 : decode cX7_doubt 55 = .ok (.invokevirtual 199, 3) := by decide +kernel
theorem dX7_doubt_58 : decode cX7_doubt 58 = .ok (.ireturn, 1) := by decide +kernel
theorem dX7_habit_0 : decode cX7_habit 0 = .ok (.iload_n 1, 1) := by decide +kernel
theorem dX7_habit_1 : decode cX7_habit 1 = .ok (.invokestatic 55, 3) := by decide +kernel
theorem dX7_habit_4 : decode cX7_habit 4 = .ok (.ifCond .eq 32, 3) := by decide +kernel
theorem dX7_habit_7 : decode cX7_habit 7 = .ok (.iload_n 2, 1) := by decide +kernel
theorem dX7_habit_8 : decode cX7_habit 8 = .ok (.invokestatic 55, 3) := by decide +kernel
theorem dX7_habit_11 : decode cX7_habit 11 = .ok (.ifCond .eq 25, 3) := by decide +kernel
theorem dX7_habit_14 : decode cX7_habit 14 = .ok (.iload_n 1, 1) := by decide +kernel
theorem dX7_habit_15 : decode cX7_habit 15 = .ok (.iload_n 2, 1) := by decide +kernel
theorem dX7_habit_16 : decode cX7_habit 16 = .ok (.if_icmp .eq 20, 3) := by decide +kernel
theorem dX7_habit_19 : decode cX7_habit 19 = .ok (.aload_n 0, 1) := by decide +kernel
theorem dX7_habit_20 : decode cX7_habit 20 = .ok (.iload_n 3, 1) := by decide +kernel
theorem dX7_habit_21 : decode cX7_habit 21 = .ok (.invokevirtual 132, 3) := by decide +kernel
theorem dX7_habit_24 : decode cX7_habit 24 = .ok (.ifCond .eq 12, 3) := by decide +kernel
theorem dX7_habit_27 : decode cX7_habit 27 = .ok (.iload 4, 2) := by decide +kernel
theorem dX7_habit_29 : decode cX7_habit 29 = .ok (.iconst 1, 1) := by decide +kernel
theorem dX7_habit_30 : decode cX7_habit 30 = .ok (.invokestatic 59, 3) := by decide +kernel
theorem dX7_habit_33 : decode cX7_habit 33 = .ok (.ifCond .ne 6, 3) := by decide +kernel
theorem dX7_habit_36 : decode cX7_habit 36 = .ok (.ldc 203, 2) := by decide +kernel
theorem dX7_habit_38 : decode cX7_habit 38 = .ok (.ireturn, 1) := by decide +kernel
theorem dX7_habit_39 : decode cX7_habit 39 = .ok (.aload_n 0, 1) := by decide +kernel
theorem dX7_habit_40 : decode cX7_habit 40 = .ok (.iload_n 3, 1) := by decide +kernel
theorem dX7_habit_41 : decode cX7_habit 41 = .ok (.invokevirtual 138, 3) := by decide +kernel
theorem dX7_habit_44 : decode cX7_habit 44 = .ok (.iconst 0, 1) := by decide +kernel
theorem dX7_habit_45 : decode cX7_habit 45 = .ok (.istore 5, 2) := by decide +kernel
theorem dX7_habit_47 : decode cX7_habit 47 = .ok (.iconst 0, 1) := by decide +kernel
theorem dX7_habit_48 : decode cX7_habit 48 = .ok (.istore 6, 2) := by decide +kernel
theorem dX7_habit_50 : decode cX7_habit 50 = .ok (.iload 6, 2) := by decide +kernel
theorem dX7_habit_52 : decode cX7_habit 52 = .ok (.aload_n 0, 1) := by decide +kernel
theorem dX7_habit_53 : decode cX7_habit 53 = .ok (.getfield 41, 3) := by decide +kernel
theorem dX7_habit_56 : decode cX7_habit 56 = .ok (.invokevirtual 51, 3) := by decide +kernel
theorem dX7_habit_59 : decode cX7_habit 59 = .ok (.if_icmp .ge 82, 3) := by decide +kernel
theorem dX7_habit_62 : decode cX7_habit 62 = .ok (.aload_n 0, 1) := by decide +kernel
theorem dX7_habit_63 : decode cX7_habit 63 = .ok (.getfield 41, 3) := by decide +kernel
theorem dX7_habit_66 : decode cX7_habit 66 = .ok (.iload 6, 2) := by decide +kernel
theorem dX7_habit_68 : decode cX7_habit 68 = .ok (.invokevirtual 172, 3) := by decide +kernel
theorem dX7_habit_71 : decode cX7_habit 71 = .ok (.checkcast 121, 3) := by decide +kernel
theorem dX7_habit_74 : decode cX7_habit 74 = .ok (.astore 7, 2) := by decide +kernel
theorem dX7_habit_76 : decode cX7_habit 76 = .ok (.aload 7, 2) := by decide +kernel
theorem dX7_habit_78 : decode cX7_habit 78 = .ok (.iload_n 1, 1) := by decide +kernel
theorem dX7_habit_79 : decode cX7_habit 79 = .ok (.invokevirtual 204, 3) := by decide +kernel
theorem dX7_habit_82 : decode cX7_habit 82 = .ok (.astore 8, 2) := by decide +kernel
theorem dX7_habit_84 : decode cX7_habit 84 = .ok (.aload 7, 2) := by decide +kernel
theorem dX7_habit_86 : decode cX7_habit 86 = .ok (.iload_n 2, 1) := by decide +kernel
theorem dX7_habit_87 : decode cX7_habit 87 = .ok (.invokevirtual 204, 3) := by decide +kernel
theorem dX7_habit_90 : decode cX7_habit 90 = .ok (.astore 9, 2) := by decide +kernel
theorem dX7_habit_92 : decode cX7_habit 92 = .ok (.aload 8, 2) := by decide +kernel
theorem dX7_habit_94 : decode cX7_habit 94 = .ok (.ifnull 41, 3) := by decide +kernel
theorem dX7_habit_97 : decode cX7_habit 97 = .ok (.aload 9, 2) := by decide +kernel
theorem dX7_habit_99 : decode cX7_habit 99 = .ok (.ifnull 36, 3) := by decide +kernel
theorem dX7_habit_102 : decode cX7_habit 102 = .ok (.aload 8, 2) := by decide +kernel
theorem dX7_habit_104 : decode cX7_habit 104 = .ok (.iload_n 3, 1) := by decide +kernel
theorem dX7_habit_105 : decode cX7_habit 105 = .ok (.invokevirtual 104, 3) := by decide +kernel
theorem dX7_habit_108 : decode cX7_habit 108 = .ok (.ifCond .ne 27, 3) := by decide +kernel
theorem dX7_habit_111 : decode cX7_habit 111 = .ok (.aload 9, 2) := by decide +kernel
theorem dX7_habit_113 : decode cX7_habit 113 = .ok (.iload_n 3, 1) := by decide +kernel
theorem dX7_habit_114 : decode cX7_habit 114 = .ok (.invokevirtual 104, 3) := by decide +kernel
theorem dX7_habit_117 : decode cX7_habit 117 = .ok (.ifCond .ne 18, 3) := by decide +kernel
theorem dX7_habit_120 : decode cX7_habit 120 = .ok (.iload 5, 2) := by decide +kernel
theorem dX7_habit_122 : decode cX7_habit 122 = .ok (.aload_n 0, 1) := by decide +kernel
theorem dX7_habit_123 : decode cX7_habit 123 = .ok (.aload 8, 2) := by decide +kernel
theorem dX7_habit_125 : decode cX7_habit 125 = .ok (.aload 9, 2) := by decide +kernel
theorem dX7_habit_127 : decode cX7_habit 127 = .ok (.iload 4, 2) := by decide +kernel
theorem dX7_habit_129 : decode cX7_habit 129 = .ok (.invokevirtual 207, 3) := by decide +kernel
theorem dX7_habit_132 : decode cX7_habit 132 = .ok (.iadd, 1) := by decide +kernel
theorem dX7_habit_133 : decode cX7_habit 133 = .ok (.istore 5, 2) := by decide +kernel
theorem dX7_habit_135 : decode cX7_habit 135 = .ok (.iinc 6 1, 3) := by decide +kernel
theorem dX7_habit_138 : decode cX7_habit 138 = .ok (.goto (-88), 3) := by decide +kernel
theorem dX7_habit_141 : decode cX7_habit 141 = .ok (.iload 5, 2) := by decide +kernel
theorem dX7_habit_143 : decode cX7_habit 143 = .ok (.ireturn, 1) := by decide +kernel
theorem dX7_span_0 : decode cX7_span 0 = .ok (.iload_n 1, 1) := by decide +kernel
theorem dX7_span_1 : decode cX7_span 1 = .ok (.invokestatic 63, 3) := by decide +kernel
theorem dX7_span_4 : decode cX7_span 4 = .ok (.ifCond .eq 11, 3) := by decide +kernel
theorem dX7_span_7 : decode cX7_span 7 = .ok (.aload_n 0, 1) := by decide +kernel
theorem dX7_span_8 : decode cX7_span 8 = .ok (.iload_n 2, 1) := by decide +kernel
theorem dX7_span_9 : decode cX7_span 9 = .ok (.invokevirtual 132, 3) := by decide +kernel
theorem dX7_span_12 : decode cX7_span 12 = .ok (.ifCond .ne 5, 3) := by decide +kernel
theorem dX7_span_15 : decode cX7_span 15 = .ok (.iconst (-1), 1) := by decide +kernel
theorem dX7_span_16 : decode cX7_span 16 = .ok (.ireturn, 1) := by decide +kernel
theorem dX7_span_17 : decode cX7_span 17 = .ok (.iconst (-1), 1) := by decide +kernel
theorem dX7_span_18 : decode cX7_span 18 = .ok (.istore 4, 2) := by decide +kernel
theorem dX7_span_20 : decode cX7_span 20 = .ok (.iconst 0, 1) := by decide +kernel
theorem dX7_span_21 : decode cX7_span 21 = .ok (.istore 5, 2) := by decide +kernel
theorem dX7_span_23 : decode cX7_span 23 = .ok (.iload 5, 2) := by decide +kernel
theorem dX7_span_25 : decode cX7_span 25 = .ok (.aload_n 0, 1) := by decide +kernel
theorem dX7_span_26 : decode cX7_span 26 = .ok (.getfield 37, 3) := by decide +kernel
theorem dX7_span_29 : decode cX7_span 29 = .ok (.invokevirtual 51, 3) := by decide +kernel
theorem dX7_span_32 : decode cX7_span 32 = .ok (.if_icmp .ge 103, 3) := by decide +kernel
theorem dX7_span_35 : decode cX7_span 35 = .ok (.aload_n 0, 1) := by decide +kernel
theorem dX7_span_36 : decode cX7_span 36 = .ok (.getfield 37, 3) := by decide +kernel
theorem dX7_span_39 : decode cX7_span 39 = .ok (.iload 5, 2) := by decide +kernel
theorem dX7_span_41 : decode cX7_span 41 = .ok (.invokevirtual 172, 3) := by decide +kernel
theorem dX7_span_44 : decode cX7_span 44 = .ok (.checkcast 66, 3) := by decide +kernel
theorem dX7_span_47 : decode cX7_span 47 = .ok (.astore 6, 2) := by decide +kernel
theorem dX7_span_49 : decode cX7_span 49 = .ok (.aload 6, 2) := by decide +kernel
theorem dX7_span_51 : decode cX7_span 51 = .ok (.getfield 184, 3) := by decide +kernel
theorem dX7_span_54 : decode cX7_span 54 = .ok (.iload_n 1, 1) := by decide +kernel
theorem dX7_span_55 : decode cX7_span 55 = .ok (.if_icmp .ne 74, 3) := by decide +kernel
theorem dX7_span_58 : decode cX7_span 58 = .ok (.aload 6, 2) := by decide +kernel
theorem dX7_span_60 : decode cX7_span 60 = .ok (.iload_n 2, 1) := by decide +kernel
theorem dX7_span_61 : decode cX7_span 61 = .ok (.invokevirtual 104, 3) := by decide +kernel
theorem dX7_span_64 : decode cX7_span 64 = .ok (.ifCond .ne 65, 3) := by decide +kernel
theorem dX7_span_67 : decode cX7_span 67 = .ok (.iload_n 3, 1) := by decide +kernel
theorem dX7_span_68 : decode cX7_span 68 = .ok (.ifCond .eq 21, 3) := by decide +kernel
theorem dX7_span_71 : decode cX7_span 71 = .ok (.aload 6, 2) := by decide +kernel
theorem dX7_span_73 : decode cX7_span 73 = .ok (.getfield 211, 3) := by decide +kernel
theorem dX7_span_76 : decode cX7_span 76 = .ok (.iload 4, 2) := by decide +kernel
theorem dX7_span_78 : decode cX7_span 78 = .ok (.if_icmp .le 7, 3) := by decide +kernel
theorem dX7_span_81 : decode cX7_span 81 = .ok (.iconst 1, 1) := by decide +kernel
theorem dX7_span_82 : decode cX7_span 82 = .ok (.goto 22, 3) := by decide +kernel
theorem dX7_span_85 : decode cX7_span 85 = .ok (.iconst 0, 1) := by decide +kernel
theorem dX7_span_86 : decode cX7_span 86 = .ok (.goto 18, 3) := by decide +kernel
theorem dX7_span_89 : decode cX7_span 89 = .ok (.aload 6, 2) := by decide +kernel
theorem dX7_span_91 : decode cX7_span 91 = .ok (.getfield 211, 3) := by decide +kernel
theorem dX7_span_94 : decode cX7_span 94 = .ok (.iload 4, 2) := by decide +kernel
theorem dX7_span_96 : decode cX7_span 96 = .ok (.if_icmp .ge 7, 3) := by decide +kernel
theorem dX7_span_99 : decode cX7_span 99 = .ok (.iconst 1, 1) := by decide +kernel
theorem dX7_span_100 : decode cX7_span 100 = .ok (.goto 4, 3) := by decide +kernel
theorem dX7_span_103 : decode cX7_span 103 = .ok (.iconst 0, 1) := by decide +kernel
theorem dX7_span_104 : decode cX7_span 104 = .ok (.istore 7, 2) := by decide +kernel
theorem dX7_span_106 : decode cX7_span 106 = .ok (.iload 4, 2) := by decide +kernel
theorem dX7_span_108 : decode cX7_span 108 = .ok (.iconst (-1), 1) := by decide +kernel
theorem dX7_span_109 : decode cX7_span 109 = .ok (.if_icmp .eq 8, 3) := by decide +kernel
theorem dX7_span_112 : decode cX7_span 112 = .ok (.iload 7, 2) := by decide +kernel
theorem dX7_span_114 : decode cX7_span 114 = .ok (.ifCond .eq 11, 3) := by decide +kernel
theorem dX7_span_117 : decode cX7_span 117 = .ok (.aload 6, 2) := by decide +kernel
theorem dX7_span_119 : decode cX7_span 119 = .ok (.getfield 211, 3) := by decide +kernel
theorem dX7_span_122 : decode cX7_span 122 = .ok (.goto 5, 3) := by decide +kernel
theorem dX7_span_125 : decode cX7_span 125 = .ok (.iload 4, 2) := by decide +kernel
theorem dX7_span_127 : decode cX7_span 127 = .ok (.istore 4, 2) := by decide +kernel
theorem dX7_span_129 : decode cX7_span 129 = .ok (.iinc 5 1, 3) := by decide +kernel
theorem dX7_span_132 : decode cX7_span 132 = .ok (.goto (-109), 3) := by decide +kernel
theorem dX7_span_135 : decode cX7_span 135 = .ok (.iload 4, 2) := by decide +kernel
theorem dX7_span_137 : decode cX7_span 137 = .ok (.ireturn, 1) := by decide +kernel
theorem dX7_count_0 : decode cX7_count 0 = .ok (.iload_n 1, 1) := by decide +kernel
theorem dX7_count_1 : decode cX7_count 1 = .ok (.tableswitch 75 0 5 #[39, 44, 52, 57, 62, 67], 39) := by decide +kernel
theorem dX7_count_40 : decode cX7_count 40 = .ok (.aload_n 0, 1) := by decide +kernel
theorem dX7_count_41 : decode cX7_count 41 = .ok (.getfield 47, 3) := by decide +kernel
theorem dX7_count_44 : decode cX7_count 44 = .ok (.ireturn, 1) := by decide +kernel
theorem dX7_count_45 : decode cX7_count 45 = .ok (.aload_n 0, 1) := by decide +kernel
theorem dX7_count_46 : decode cX7_count 46 = .ok (.getfield 37, 3) := by decide +kernel
theorem dX7_count_49 : decode cX7_count 49 = .ok (.invokevirtual 51, 3) := by decide +kernel
theorem dX7_count_52 : decode cX7_count 52 = .ok (.ireturn, 1) := by decide +kernel
theorem dX7_count_53 : decode cX7_count 53 = .ok (.aload_n 0, 1) := by decide +kernel
theorem dX7_count_54 : decode cX7_count 54 = .ok (.getfield 111, 3) := by decide +kernel
theorem dX7_count_57 : decode cX7_count 57 = .ok (.ireturn, 1) := by decide +kernel
theorem dX7_count_58 : decode cX7_count 58 = .ok (.aload_n 0, 1) := by decide +kernel
theorem dX7_count_59 : decode cX7_count 59 = .ok (.getfield 85, 3) := by decide +kernel
theorem dX7_count_62 : decode cX7_count 62 = .ok (.ireturn, 1) := by decide +kernel
theorem dX7_count_63 : decode cX7_count 63 = .ok (.aload_n 0, 1) := by decide +kernel
theorem dX7_count_64 : decode cX7_count 64 = .ok (.getfield 94, 3) := by decide +kernel
theorem dX7_count_67 : decode cX7_count 67 = .ok (.ireturn, 1) := by decide +kernel
theorem dX7_count_68 : decode cX7_count 68 = .ok (.aload_n 0, 1) := by decide +kernel
theorem dX7_count_69 : decode cX7_count 69 = .ok (.getfield 41, 3) := by decide +kernel
theorem dX7_count_72 : decode cX7_count 72 = .ok (.invokevirtual 51, 3) := by decide +kernel
theorem dX7_count_75 : decode cX7_count 75 = .ok (.ireturn, 1) := by decide +kernel
theorem dX7_count_76 : decode cX7_count 76 = .ok (.iconst (-1), 1) := by decide +kernel
theorem dX7_count_77 : decode cX7_count 77 = .ok (.ireturn, 1) := by decide +kernel
theorem dX7_isWithin_0 : decode cX7_isWithin 0 = .ok (.iload_n 0, 1) := by decide +kernel
theorem dX7_isWithin_1 : decode cX7_isWithin 1 = .ok (.ifCond .lt 12, 3) := by decide +kernel
theorem dX7_isWithin_4 : decode cX7_isWithin 4 = .ok (.iload_n 0, 1) := by decide +kernel
theorem dX7_isWithin_5 : decode cX7_isWithin 5 = .ok (.iload_n 1, 1) := by decide +kernel
theorem dX7_isWithin_6 : decode cX7_isWithin 6 = .ok (.if_icmp .gt 7, 3) := by decide +kernel
theorem dX7_isWithin_9 : decode cX7_isWithin 9 = .ok (.iconst 1, 1) := by decide +kernel
theorem dX7_isWithin_10 : decode cX7_isWithin 10 = .ok (.goto 4, 3) := by decide +kernel
theorem dX7_isWithin_13 : decode cX7_isWithin 13 = .ok (.iconst 0, 1) := by decide +kernel
theorem dX7_isWithin_14 : decode cX7_isWithin 14 = .ok (.ireturn, 1) := by decide +kernel
theorem dX7_isHand_0 : decode cX7_isHand 0 = .ok (.iload_n 0, 1) := by decide +kernel
theorem dX7_isHand_1 : decode cX7_isHand 1 = .ok (.iconst 5, 1) := by decide +kernel
theorem dX7_isHand_2 : decode cX7_isHand 2 = .ok (.invokestatic 59, 3) := by decide +kernel
theorem dX7_isHand_5 : decode cX7_isHand 5 = .ok (.ireturn, 1) := by decide +kernel
theorem dX7_isWords_0 : decode cX7_isWords 0 = .ok (.iload_n 0, 1) := by decide +kernel
theorem dX7_isWords_1 : decode cX7_isWords 1 = .ok (.bipush 9, 2) := by decide +kernel
theorem dX7_isWords_3 : decode cX7_isWords 3 = .ok (.invokestatic 59, 3) := by decide +kernel
theorem dX7_isWords_6 : decode cX7_isWords 6 = .ok (.ireturn, 1) := by decide +kernel
theorem dX7_isNote_0 : decode cX7_isNote 0 = .ok (.iload_n 0, 1) := by decide +kernel
theorem dX7_isNote_1 : decode cX7_isNote 1 = .ok (.iconst (-1), 1) := by decide +kernel
theorem dX7_isNote_2 : decode cX7_isNote 2 = .ok (.if_icmp .eq 23, 3) := by decide +kernel
theorem dX7_isNote_5 : decode cX7_isNote 5 = .ok (.iload_n 0, 1) := by decide +kernel
theorem dX7_isNote_6 : decode cX7_isNote 6 = .ok (.bipush 60, 2) := by decide +kernel
theorem dX7_isNote_8 : decode cX7_isNote 8 = .ok (.invokestatic 59, 3) := by decide +kernel
theorem dX7_isNote_11 : decode cX7_isNote 11 = .ok (.ifCond .eq 18, 3) := by decide +kernel
theorem dX7_isNote_14 : decode cX7_isNote 14 = .ok (.iload_n 1, 1) := by decide +kernel
theorem dX7_isNote_15 : decode cX7_isNote 15 = .ok (.iconst 1, 1) := by decide +kernel
theorem dX7_isNote_16 : decode cX7_isNote 16 = .ok (.if_icmp .lt 13, 3) := by decide +kernel
theorem dX7_isNote_19 : decode cX7_isNote 19 = .ok (.iload_n 1, 1) := by decide +kernel
theorem dX7_isNote_20 : decode cX7_isNote 20 = .ok (.bipush 16, 2) := by decide +kernel
theorem dX7_isNote_22 : decode cX7_isNote 22 = .ok (.if_icmp .gt 7, 3) := by decide +kernel
theorem dX7_isNote_25 : decode cX7_isNote 25 = .ok (.iconst 1, 1) := by decide +kernel
theorem dX7_isNote_26 : decode cX7_isNote 26 = .ok (.goto 4, 3) := by decide +kernel
theorem dX7_isNote_29 : decode cX7_isNote 29 = .ok (.iconst 0, 1) := by decide +kernel
theorem dX7_isNote_30 : decode cX7_isNote 30 = .ok (.ireturn, 1) := by decide +kernel
theorem dX7_isDay_0 : decode cX7_isDay 0 = .ok (.iload_n 1, 1) := by decide +kernel
theorem dX7_isDay_1 : decode cX7_isDay 1 = .ok (.aload_n 0, 1) := by decide +kernel
theorem dX7_isDay_2 : decode cX7_isDay 2 = .ok (.getfield 47, 3) := by decide +kernel
theorem dX7_isDay_5 : decode cX7_isDay 5 = .ok (.invokestatic 59, 3) := by decide +kernel
theorem dX7_isDay_8 : decode cX7_isDay 8 = .ok (.ireturn, 1) := by decide +kernel
theorem dX7_isPair_0 : decode cX7_isPair 0 = .ok (.iconst 0, 1) := by decide +kernel
theorem dX7_isPair_1 : decode cX7_isPair 1 = .ok (.istore_n 3, 1) := by decide +kernel
theorem dX7_isPair_2 : decode cX7_isPair 2 = .ok (.iload_n 3, 1) := by decide +kernel
theorem dX7_isPair_3 : decode cX7_isPair 3 = .ok (.aload_n 0, 1) := by decide +kernel
theorem dX7_isPair_4 : decode cX7_isPair 4 = .ok (.getfield 41, 3) := by decide +kernel
theorem dX7_isPair_7 : decode cX7_isPair 7 = .ok (.invokevirtual 51, 3) := by decide +kernel
theorem dX7_isPair_10 : decode cX7_isPair 10 = .ok (.if_icmp .ge 30, 3) := by decide +kernel
theorem dX7_isPair_13 : decode cX7_isPair 13 = .ok (.aload_n 0, 1) := by decide +kernel
theorem dX7_isPair_14 : decode cX7_isPair 14 = .ok (.getfield 41, 3) := by decide +kernel
theorem dX7_isPair_17 : decode cX7_isPair 17 = .ok (.iload_n 3, 1) := by decide +kernel
theorem dX7_isPair_18 : decode cX7_isPair 18 = .ok (.invokevirtual 172, 3) := by decide +kernel
theorem dX7_isPair_21 : decode cX7_isPair 21 = .ok (.checkcast 121, 3) := by decide +kernel
theorem dX7_isPair_24 : decode cX7_isPair 24 = .ok (.aload_n 1, 1) := by decide +kernel
theorem dX7_isPair_25 : decode cX7_isPair 25 = .ok (.aload_n 2, 1) := by decide +kernel
theorem dX7_isPair_26 : decode cX7_isPair 26 = .ok (.invokevirtual 214, 3) := by decide +kernel
theorem dX7_isPair_29 : decode cX7_isPair 29 = .ok (.ifCond .eq 5, 3) := by decide +kernel
theorem dX7_isPair_32 : decode cX7_isPair 32 = .ok (.iconst 1, 1) := by decide +kernel
theorem dX7_isPair_33 : decode cX7_isPair 33 = .ok (.ireturn, 1) := by decide +kernel
theorem dX7_isPair_34 : decode cX7_isPair 34 = .ok (.iinc 3 1, 3) := by decide +kernel
theorem dX7_isPair_37 : decode cX7_isPair 37 = .ok (.goto (-35), 3) := by decide +kernel
theorem dX7_isPair_40 : decode cX7_isPair 40 = .ok (.iconst 0, 1) := by decide +kernel
theorem dX7_isPair_41 : decode cX7_isPair 41 = .ok (.ireturn, 1) := by decide +kernel
theorem dX7_find_0 : decode cX7_find 0 = .ok (.iload_n 1, 1) := by decide +kernel
theorem dX7_find_1 : decode cX7_find 1 = .ok (.ifCond .lt 28, 3) := by decide +kernel
theorem dX7_find_4 : decode cX7_find 4 = .ok (.iload_n 1, 1) := by decide +kernel
theorem dX7_find_5 : decode cX7_find 5 = .ok (.aload_n 0, 1) := by decide +kernel
theorem dX7_find_6 : decode cX7_find 6 = .ok (.getfield 37, 3) := by decide +kernel
theorem dX7_find_9 : decode cX7_find 9 = .ok (.invokevirtual 51, 3) := by decide +kernel
theorem dX7_find_12 : decode cX7_find 12 = .ok (.if_icmp .ge 17, 3) := by decide +kernel
theorem dX7_find_15 : decode cX7_find 15 = .ok (.aload_n 0, 1) := by decide +kernel
theorem dX7_find_16 : decode cX7_find 16 = .ok (.getfield 37, 3) := by decide +kernel
theorem dX7_find_19 : decode cX7_find 19 = .ok (.iload_n 1, 1) := by decide +kernel
theorem dX7_find_20 : decode cX7_find 20 = .ok (.invokevirtual 172, 3) := by decide +kernel
theorem dX7_find_23 : decode cX7_find 23 = .ok (.checkcast 66, 3) := by decide +kernel
theorem dX7_find_26 : decode cX7_find 26 = .ok (.goto 4, 3) := by decide +kernel
theorem dX7_find_29 : decode cX7_find 29 = .ok (.aconst_null, 1) := by decide +kernel
theorem dX7_find_30 : decode cX7_find 30 = .ok (.areturn, 1) := by decide +kernel
theorem dX7_findTrue_0 : decode cX7_findTrue 0 = .ok (.aload_n 0, 1) := by decide +kernel
theorem dX7_findTrue_1 : decode cX7_findTrue 1 = .ok (.iload_n 1, 1) := by decide +kernel
theorem dX7_findTrue_2 : decode cX7_findTrue 2 = .ok (.invokevirtual 75, 3) := by decide +kernel
theorem dX7_findTrue_5 : decode cX7_findTrue 5 = .ok (.astore_n 3, 1) := by decide +kernel
theorem dX7_findTrue_6 : decode cX7_findTrue 6 = .ok (.aload_n 3, 1) := by decide +kernel
theorem dX7_findTrue_7 : decode cX7_findTrue 7 = .ok (.ifnull 19, 3) := by decide +kernel
theorem dX7_findTrue_10 : decode cX7_findTrue 10 = .ok (.aload_n 0, 1) := by decide +kernel
theorem dX7_findTrue_11 : decode cX7_findTrue 11 = .ok (.iload_n 2, 1) := by decide +kernel
theorem dX7_findTrue_12 : decode cX7_findTrue 12 = .ok (.invokevirtual 132, 3) := by decide +kernel
theorem dX7_findTrue_15 : decode cX7_findTrue 15 = .ok (.ifCond .eq 11, 3) := by decide +kernel
theorem dX7_findTrue_18 : decode cX7_findTrue 18 = .ok (.aload_n 3, 1) := by decide +kernel
theorem dX7_findTrue_19 : decode cX7_findTrue 19 = .ok (.iload_n 2, 1) := by decide +kernel
theorem dX7_findTrue_20 : decode cX7_findTrue 20 = .ok (.invokevirtual 104, 3) := by decide +kernel
theorem dX7_findTrue_23 : decode cX7_findTrue 23 = .ok (.ifCond .eq 7, 3) := by decide +kernel
theorem dX7_findTrue_26 : decode cX7_findTrue 26 = .ok (.aconst_null, 1) := by decide +kernel
theorem dX7_findTrue_27 : decode cX7_findTrue 27 = .ok (.goto 4, 3) := by decide +kernel
theorem dX7_findTrue_30 : decode cX7_findTrue 30 = .ok (.aload_n 3, 1) := by decide +kernel
theorem dX7_findTrue_31 : decode cX7_findTrue 31 = .ok (.areturn, 1) := by decide +kernel
theorem dX7_turnTo_0 : decode cX7_turnTo 0 = .ok (.iconst 0, 1) := by decide +kernel
theorem dX7_turnTo_1 : decode cX7_turnTo 1 = .ok (.istore_n 2, 1) := by decide +kernel
theorem dX7_turnTo_2 : decode cX7_turnTo 2 = .ok (.iload_n 2, 1) := by decide +kernel
theorem dX7_turnTo_3 : decode cX7_turnTo 3 = .ok (.aload_n 0, 1) := by decide +kernel
theorem dX7_turnTo_4 : decode cX7_turnTo 4 = .ok (.getfield 37, 3) := by decide +kernel
theorem dX7_turnTo_7 : decode cX7_turnTo 7 = .ok (.invokevirtual 51, 3) := by decide +kernel
theorem dX7_turnTo_10 : decode cX7_turnTo 10 = .ok (.if_icmp .ge 37, 3) := by decide +kernel
theorem dX7_turnTo_13 : decode cX7_turnTo 13 = .ok (.aload_n 0, 1) := by decide +kernel
theorem dX7_turnTo_14 : decode cX7_turnTo 14 = .ok (.getfield 37, 3) := by decide +kernel
theorem dX7_turnTo_17 : decode cX7_turnTo 17 = .ok (.iload_n 2, 1) := by decide +kernel
theorem dX7_turnTo_18 : decode cX7_turnTo 18 = .ok (.invokevirtual 172, 3) := by decide +kernel
theorem dX7_turnTo_21 : decode cX7_turnTo 21 = .ok (.checkcast 66, 3) := by decide +kernel
theorem dX7_turnTo_24 : decode cX7_turnTo 24 = .ok (.astore_n 3, 1) := by decide +kernel
theorem dX7_turnTo_25 : decode cX7_turnTo 25 = .ok (.aload_n 3, 1) := by decide +kernel
theorem dX7_turnTo_26 : decode cX7_turnTo 26 = .ok (.iload_n 1, 1) := by decide +kernel
theorem dX7_turnTo_27 : decode cX7_turnTo 27 = .ok (.invokevirtual 217, 3) := by decide +kernel
theorem dX7_turnTo_30 : decode cX7_turnTo 30 = .ok (.ifCond .eq 11, 3) := by decide +kernel
theorem dX7_turnTo_33 : decode cX7_turnTo 33 = .ok (.aload_n 0, 1) := by decide +kernel
theorem dX7_turnTo_34 : decode cX7_turnTo 34 = .ok (.getfield 30, 3) := by decide +kernel
theorem dX7_turnTo_37 : decode cX7_turnTo 37 = .ok (.aload_n 3, 1) := by decide +kernel
theorem dX7_turnTo_38 : decode cX7_turnTo 38 = .ok (.invokevirtual 220, 3) := by decide +kernel
theorem dX7_turnTo_41 : decode cX7_turnTo 41 = .ok (.iinc 2 1, 3) := by decide +kernel
theorem dX7_turnTo_44 : decode cX7_turnTo 44 = .ok (.goto (-42), 3) := by decide +kernel
theorem dX7_turnTo_47 : decode cX7_turnTo 47 = .ok (.return_, 1) := by decide +kernel
theorem dX7_layOut_0 : decode cX7_layOut 0 = .ok (.aload_n 0, 1) := by decide +kernel
theorem dX7_layOut_1 : decode cX7_layOut 1 = .ok (.getfield 21, 3) := by decide +kernel
theorem dX7_layOut_4 : decode cX7_layOut 4 = .ok (.aload_n 1, 1) := by decide +kernel
theorem dX7_layOut_5 : decode cX7_layOut 5 = .ok (.getfield 141, 3) := by decide +kernel
theorem dX7_layOut_8 : decode cX7_layOut 8 = .ok (.aload_n 2, 1) := by decide +kernel
theorem dX7_layOut_9 : decode cX7_layOut 9 = .ok (.getfield 141, 3) := by decide +kernel
theorem dX7_layOut_12 : decode cX7_layOut 12 = .ok (.aload_n 0, 1) := by decide +kernel
theorem dX7_layOut_13 : decode cX7_layOut 13 = .ok (.getfield 30, 3) := by decide +kernel
theorem dX7_layOut_16 : decode cX7_layOut 16 = .ok (.aload_n 1, 1) := by decide +kernel
theorem dX7_layOut_17 : decode cX7_layOut 17 = .ok (.aload_n 2, 1) := by decide +kernel
theorem dX7_layOut_18 : decode cX7_layOut 18 = .ok (.invokevirtual 158, 3) := by decide +kernel
theorem dX7_layOut_21 : decode cX7_layOut 21 = .ok (.invokevirtual 224, 3) := by decide +kernel
theorem dX7_layOut_24 : decode cX7_layOut 24 = .ok (.return_, 1) := by decide +kernel
theorem dX7_gather_0 : decode cX7_gather 0 = .ok (.aload_n 0, 1) := by decide +kernel
theorem dX7_gather_1 : decode cX7_gather 1 = .ok (.getfield 44, 3) := by decide +kernel
theorem dX7_gather_4 : decode cX7_gather 4 = .ok (.invokevirtual 227, 3) := by decide +kernel
theorem dX7_gather_7 : decode cX7_gather 7 = .ok (.aload_n 0, 1) := by decide +kernel
theorem dX7_gather_8 : decode cX7_gather 8 = .ok (.iload_n 1, 1) := by decide +kernel
theorem dX7_gather_9 : decode cX7_gather 9 = .ok (.iload_n 3, 1) := by decide +kernel
theorem dX7_gather_10 : decode cX7_gather 10 = .ok (.invokevirtual 187, 3) := by decide +kernel
theorem dX7_gather_13 : decode cX7_gather 13 = .ok (.astore 4, 2) := by decide +kernel
theorem dX7_gather_15 : decode cX7_gather 15 = .ok (.aload 4, 2) := by decide +kernel
theorem dX7_gather_17 : decode cX7_gather 17 = .ok (.ifnull 13, 3) := by decide +kernel
theorem dX7_gather_20 : decode cX7_gather 20 = .ok (.iload_n 2, 1) := by decide +kernel
theorem dX7_gather_21 : decode cX7_gather 21 = .ok (.sipush 10000, 3) := by decide +kernel
theorem dX7_gather_24 : decode cX7_gather 24 = .ok (.invokestatic 59, 3) := by decide +kernel
theorem dX7_gather_27 : decode cX7_gather 27 = .ok (.ifCond .ne 5, 3) := by decide +kernel
theorem dX7_gather_30 : decode cX7_gather 30 = .ok (.iconst 0, 1) := by decide +kernel
theorem dX7_gather_31 : decode cX7_gather 31 = .ok (.ireturn, 1) := by decide +kernel
theorem dX7_gather_32 : decode cX7_gather 32 = .ok (.aload_n 0, 1) := by decide +kernel
theorem dX7_gather_33 : decode cX7_gather 33 = .ok (.iload_n 3, 1) := by decide +kernel
theorem dX7_gather_34 : decode cX7_gather 34 = .ok (.invokevirtual 138, 3) := by decide +kernel
theorem dX7_gather_37 : decode cX7_gather 37 = .ok (.aload_n 0, 1) := by decide +kernel
theorem dX7_gather_38 : decode cX7_gather 38 = .ok (.getfield 44, 3) := by decide +kernel
theorem dX7_gather_41 : decode cX7_gather 41 = .ok (.aload 4, 2) := by decide +kernel
theorem dX7_gather_43 : decode cX7_gather 43 = .ok (.invokevirtual 71, 3) := by decide +kernel
theorem dX7_gather_46 : decode cX7_gather 46 = .ok (.pop, 1) := by decide +kernel
theorem dX7_gather_47 : decode cX7_gather 47 = .ok (.iconst 0, 1) := by decide +kernel
theorem dX7_gather_48 : decode cX7_gather 48 = .ok (.istore 5, 2) := by decide +kernel
theorem dX7_gather_50 : decode cX7_gather 50 = .ok (.iload 5, 2) := by decide +kernel
theorem dX7_gather_52 : decode cX7_gather 52 = .ok (.bipush 20, 2) := by decide +kernel
theorem dX7_gather_54 : decode cX7_gather 54 = .ok (.if_icmp .ge 39, 3) := by decide +kernel
theorem dX7_gather_57 : decode cX7_gather 57 = .ok (.iload 5, 2) := by decide +kernel
theorem dX7_gather_59 : decode cX7_gather 59 = .ok (.aload_n 0, 1) := by decide +kernel
theorem dX7_gather_60 : decode cX7_gather 60 = .ok (.getfield 44, 3) := by decide +kernel
theorem dX7_gather_63 : decode cX7_gather 63 = .ok (.invokevirtual 51, 3) := by decide +kernel
theorem dX7_gather_66 : decode cX7_gather 66 = .ok (.if_icmp .ge 27, 3) := by decide +kernel
theorem dX7_gather_69 : decode cX7_gather 69 = .ok (.aload_n 0, 1) := by decide +kernel
theorem dX7_gather_70 : decode cX7_gather 70 = .ok (.aload_n 0, 1) := by decide +kernel
theorem dX7_gather_71 : decode cX7_gather 71 = .ok (.getfield 44, 3) := by decide +kernel
theorem dX7_gather_74 : decode cX7_gather 74 = .ok (.iload 5, 2) := by decide +kernel
theorem dX7_gather_76 : decode cX7_gather 76 = .ok (.invokevirtual 172, 3) := by decide +kernel
theorem dX7_gather_79 : decode cX7_gather 79 = .ok (.checkcast 66, 3) := by decide +kernel
theorem dX7_gather_82 : decode cX7_gather 82 = .ok (.iload_n 2, 1) := by decide +kernel
theorem dX7_gather_83 : decode cX7_gather 83 = .ok (.iload_n 3, 1) := by decide +kernel
theorem dX7_gather_84 : decode cX7_gather 84 = .ok (.invokevirtual 230, 3) := by decide +kernel
theorem dX7_gather_87 : decode cX7_gather 87 = .ok (.iinc 5 1, 3) := by decide +kernel
theorem dX7_gather_90 : decode cX7_gather 90 = .ok (.goto (-40), 3) := by decide +kernel
theorem dX7_gather_93 : decode cX7_gather 93 = .ok (.iconst 1, 1) := by decide +kernel
theorem dX7_gather_94 : decode cX7_gather 94 = .ok (.ireturn, 1) := by decide +kernel
theorem dX7_addLinked_0 : decode cX7_addLinked 0 = .ok (.iconst 0, 1) := by decide +kernel
theorem dX7_addLinked_1 : decode cX7_addLinked 1 = .ok (.istore 4, 2) := by decide +kernel
theorem dX7_addLinked_3 : decode cX7_addLinked 3 = .ok (.iload 4, 2) := by decide +kernel
theorem dX7_addLinked_5 : decode cX7_addLinked 5 = .ok (.aload_n 0, 1) := by decide +kernel
theorem dX7_addLinked_6 : decode cX7_addLinked 6 = .ok (.getfield 37, 3) := by decide +kernel
theorem dX7_addLinked_9 : decode cX7_addLinked 9 = .ok (.invokevirtual 51, 3) := by decide +kernel
theorem dX7_addLinked_12 : decode cX7_addLinked 12 = .ok (.if_icmp .ge 65, 3) := by decide +kernel
theorem dX7_addLinked_15 : decode cX7_addLinked 15 = .ok (.aload_n 0, 1) := by decide +kernel
theorem dX7_addLinked_16 : decode cX7_addLinked 16 = .ok (.getfield 37, 3) := by decide +kernel
theorem dX7_addLinked_19 : decode cX7_addLinked 19 = .ok (.iload 4, 2) := by decide +kernel
theorem dX7_addLinked_21 : decode cX7_addLinked 21 = .ok (.invokevirtual 172, 3) := by decide +kernel
theorem dX7_addLinked_24 : decode cX7_addLinked 24 = .ok (.checkcast 66, 3) := by decide +kernel
theorem dX7_addLinked_27 : decode cX7_addLinked 27 = .ok (.astore 5, 2) := by decide +kernel
theorem dX7_addLinked_29 : decode cX7_addLinked 29 = .ok (.aload 5, 2) := by decide +kernel
theorem dX7_addLinked_31 : decode cX7_addLinked 31 = .ok (.iload_n 3, 1) := by decide +kernel
theorem dX7_addLinked_32 : decode cX7_addLinked 32 = .ok (.invokevirtual 104, 3) := by decide +kernel
theorem dX7_addLinked_35 : decode cX7_addLinked 35 = .ok (.ifCond .ne 36, 3) := by decide +kernel
theorem dX7_addLinked_38 : decode cX7_addLinked 38 = .ok (.aload_n 0, 1) := by decide +kernel
theorem dX7_addLinked_39 : decode cX7_addLinked 39 = .ok (.aload 5, 2) := by decide +kernel
theorem dX7_addLinked_41 : decode cX7_addLinked 41 = .ok (.invokevirtual 234, 3) := by decide +kernel
theorem dX7_addLinked_44 : decode cX7_addLinked 44 = .ok (.ifCond .ne 27, 3) := by decide +kernel
theorem dX7_addLinked_47 : decode cX7_addLinked 47 = .ok (.aload_n 0, 1) := by decide +kernel
theorem dX7_addLinked_48 : decode cX7_addLinked 48 = .ok (.getfield 30, 3) := by decide +kernel
theorem dX7_addLinked_51 : decode cX7_addLinked 51 = .ok (.aload_n 1, 1) := by decide +kernel
theorem dX7_addLinked_52 : decode cX7_addLinked 52 = .ok (.aload 5, 2) := by decide +kernel
theorem dX7_addLinked_54 : decode cX7_addLinked 54 = .ok (.invokevirtual 154, 3) := by decide +kernel
theorem dX7_addLinked_57 : decode cX7_addLinked 57 = .ok (.iload_n 2, 1) := by decide +kernel
theorem dX7_addLinked_58 : decode cX7_addLinked 58 = .ok (.if_icmp .gt 13, 3) := by decide +kernel
theorem dX7_addLinked_61 : decode cX7_addLinked 61 = .ok (.aload_n 0, 1) := by decide +kernel
theorem dX7_addLinked_62 : decode cX7_addLinked 62 = .ok (.getfield 44, 3) := by decide +kernel
theorem dX7_addLinked_65 : decode cX7_addLinked 65 = .ok (.aload 5, 2) := by decide +kernel
theorem dX7_addLinked_67 : decode cX7_addLinked 67 = .ok (.invokevirtual 71, 3) := by decide +kernel
theorem dX7_addLinked_70 : decode cX7_addLinked 70 = .ok (.pop, 1) := by decide +kernel
theorem dX7_addLinked_71 : decode cX7_addLinked 71 = .ok (.iinc 4 1, 3) := by decide +kernel
theorem dX7_addLinked_74 : decode cX7_addLinked 74 = .ok (.goto (-71), 3) := by decide +kernel
theorem dX7_addLinked_77 : decode cX7_addLinked 77 = .ok (.return_, 1) := by decide +kernel
theorem dX7_isGathered_0 : decode cX7_isGathered 0 = .ok (.iconst 0, 1) := by decide +kernel
theorem dX7_isGathered_1 : decode cX7_isGathered 1 = .ok (.istore_n 2, 1) := by decide +kernel
theorem dX7_isGathered_2 : decode cX7_isGathered 2 = .ok (.iload_n 2, 1) := by decide +kernel
theorem dX7_isGathered_3 : decode cX7_isGathered 3 = .ok (.aload_n 0, 1) := by decide +kernel
theorem dX7_isGathered_4 : decode cX7_isGathered 4 = .ok (.getfield 44, 3) := by decide +kernel
theorem dX7_isGathered_7 : decode cX7_isGathered 7 = .ok (.invokevirtual 51, 3) := by decide +kernel
theorem dX7_isGathered_10 : decode cX7_isGathered 10 = .ok (.if_icmp .ge 23, 3) := by decide +kernel
theorem dX7_isGathered_13 : decode cX7_isGathered 13 = .ok (.aload_n 0, 1) := by decide +kernel
theorem dX7_isGathered_14 : decode cX7_isGathered 14 = .ok (.getfield 44, 3) := by decide +kernel
theorem dX7_isGathered_17 : decode cX7_isGathered 17 = .ok (.iload_n 2, 1) := by decide +kernel
theorem dX7_isGathered_18 : decode cX7_isGathered 18 = .ok (.invokevirtual 172, 3) := by decide +kernel
theorem dX7_isGathered_21 : decode cX7_isGathered 21 = .ok (.aload_n 1, 1) := by decide +kernel
theorem dX7_isGathered_22 : decode cX7_isGathered 22 = .ok (.if_acmp .ne 5, 3) := by decide +kernel
theorem dX7_isGathered_25 : decode cX7_isGathered 25 = .ok (.iconst 1, 1) := by decide +kernel
theorem dX7_isGathered_26 : decode cX7_isGathered 26 = .ok (.ireturn, 1) := by decide +kernel
theorem dX7_isGathered_27 : decode cX7_isGathered 27 = .ok (.iinc 2 1, 3) := by decide +kernel
theorem dX7_isGathered_30 : decode cX7_isGathered 30 = .ok (.goto (-28), 3) := by decide +kernel
theorem dX7_isGathered_33 : decode cX7_isGathered 33 = .ok (.iconst 0, 1) := by decide +kernel
theorem dX7_isGathered_34 : decode cX7_isGathered 34 = .ok (.ireturn, 1) := by decide +kernel
theorem dX7_sourceOf_0 : decode cX7_sourceOf 0 = .ok (.aconst_null, 1) := by decide +kernel
theorem dX7_sourceOf_1 : decode cX7_sourceOf 1 = .ok (.astore_n 3, 1) := by decide +kernel
theorem dX7_sourceOf_2 : decode cX7_sourceOf 2 = .ok (.aload_n 0, 1) := by decide +kernel
theorem dX7_sourceOf_3 : decode cX7_sourceOf 3 = .ok (.getfield 12, 3) := by decide +kernel
theorem dX7_sourceOf_6 : decode cX7_sourceOf 6 = .ok (.invokevirtual 238, 3) := by decide +kernel
theorem dX7_sourceOf_9 : decode cX7_sourceOf 9 = .ok (.istore 4, 2) := by decide +kernel
theorem dX7_sourceOf_11 : decode cX7_sourceOf 11 = .ok (.iconst 0, 1) := by decide +kernel
theorem dX7_sourceOf_12 : decode cX7_sourceOf 12 = .ok (.istore 5, 2) := by decide +kernel
theorem dX7_sourceOf_14 : decode cX7_sourceOf 14 = .ok (.iload 5, 2) := by decide +kernel
theorem dX7_sourceOf_16 : decode cX7_sourceOf 16 = .ok (.aload_n 0, 1) := by decide +kernel
theorem dX7_sourceOf_17 : decode cX7_sourceOf 17 = .ok (.getfield 37, 3) := by decide +kernel
theorem dX7_sourceOf_20 : decode cX7_sourceOf 20 = .ok (.invokevirtual 51, 3) := by decide +kernel
theorem dX7_sourceOf_23 : decode cX7_sourceOf 23 = .ok (.if_icmp .ge 99, 3) := by decide +kernel
theorem dX7_sourceOf_26 : decode cX7_sourceOf 26 = .ok (.aload_n 0, 1) := by decide +kernel
theorem dX7_sourceOf_27 : decode cX7_sourceOf 27 = .ok (.getfield 37, 3) := by decide +kernel
theorem dX7_sourceOf_30 : decode cX7_sourceOf 30 = .ok (.iload 5, 2) := by decide +kernel
theorem dX7_sourceOf_32 : decode cX7_sourceOf 32 = .ok (.invokevirtual 172, 3) := by decide +kernel
theorem dX7_sourceOf_35 : decode cX7_sourceOf 35 = .ok (.checkcast 66, 3) := by decide +kernel
theorem dX7_sourceOf_38 : decode cX7_sourceOf 38 = .ok (.astore 6, 2) := by decide +kernel
theorem dX7_sourceOf_40 : decode cX7_sourceOf 40 = .ok (.aload 6, 2) := by decide +kernel
theorem dX7_sourceOf_42 : decode cX7_sourceOf 42 = .ok (.aload_n 1, 1) := by decide +kernel
theorem dX7_sourceOf_43 : decode cX7_sourceOf 43 = .ok (.invokevirtual 241, 3) := by decide +kernel
theorem dX7_sourceOf_46 : decode cX7_sourceOf 46 = .ok (.ifCond .eq 70, 3) := by decide +kernel
theorem dX7_sourceOf_49 : decode cX7_sourceOf 49 = .ok (.aload 6, 2) := by decide +kernel
theorem dX7_sourceOf_51 : decode cX7_sourceOf 51 = .ok (.iload_n 2, 1) := by decide +kernel
theorem dX7_sourceOf_52 : decode cX7_sourceOf 52 = .ok (.invokevirtual 104, 3) := by decide +kernel
theorem dX7_sourceOf_55 : decode cX7_sourceOf 55 = .ok (.ifCond .ne 61, 3) := by decide +kernel
theorem dX7_sourceOf_58 : decode cX7_sourceOf 58 = .ok (.aload_n 0, 1) := by decide +kernel
theorem dX7_sourceOf_59 : decode cX7_sourceOf 59 = .ok (.getfield 30, 3) := by decide +kernel
theorem dX7_sourceOf_62 : decode cX7_sourceOf 62 = .ok (.aload_n 1, 1) := by decide +kernel
theorem dX7_sourceOf_63 : decode cX7_sourceOf 63 = .ok (.aload 6, 2) := by decide +kernel
theorem dX7_sourceOf_65 : decode cX7_sourceOf 65 = .ok (.invokevirtual 154, 3) := by decide +kernel
theorem dX7_sourceOf_68 : decode cX7_sourceOf 68 = .ok (.istore 7, 2) := by decide +kernel
theorem dX7_sourceOf_70 : decode cX7_sourceOf 70 = .ok (.aload_n 3, 1) := by decide +kernel
theorem dX7_sourceOf_71 : decode cX7_sourceOf 71 = .ok (.ifnull 14, 3) := by decide +kernel
theorem dX7_sourceOf_74 : decode cX7_sourceOf 74 = .ok (.iload 7, 2) := by decide +kernel
theorem dX7_sourceOf_76 : decode cX7_sourceOf 76 = .ok (.iload 4, 2) := by decide +kernel
theorem dX7_sourceOf_78 : decode cX7_sourceOf 78 = .ok (.if_icmp .ne 7, 3) := by decide +kernel
theorem dX7_sourceOf_81 : decode cX7_sourceOf 81 = .ok (.iconst 1, 1) := by decide +kernel
theorem dX7_sourceOf_82 : decode cX7_sourceOf 82 = .ok (.goto 4, 3) := by decide +kernel
theorem dX7_sourceOf_85 : decode cX7_sourceOf 85 = .ok (.iconst 0, 1) := by decide +kernel
theorem dX7_sourceOf_86 : decode cX7_sourceOf 86 = .ok (.istore 8, 2) := by decide +kernel
theorem dX7_sourceOf_88 : decode cX7_sourceOf 88 = .ok (.iload 7, 2) := by decide +kernel
theorem dX7_sourceOf_90 : decode cX7_sourceOf 90 = .ok (.iload 4, 2) := by decide +kernel
theorem dX7_sourceOf_92 : decode cX7_sourceOf 92 = .ok (.if_icmp .lt 17, 3) := by decide +kernel
theorem dX7_sourceOf_95 : decode cX7_sourceOf 95 = .ok (.iload 8, 2) := by decide +kernel
theorem dX7_sourceOf_97 : decode cX7_sourceOf 97 = .ok (.ifCond .eq 19, 3) := by decide +kernel
theorem dX7_sourceOf_100 : decode cX7_sourceOf 100 = .ok (.aload 6, 2) := by decide +kernel
theorem dX7_sourceOf_102 : decode cX7_sourceOf 102 = .ok (.aload_n 3, 1) := by decide +kernel
theorem dX7_sourceOf_103 : decode cX7_sourceOf 103 = .ok (.invokevirtual 241, 3) := by decide +kernel
theorem dX7_sourceOf_106 : decode cX7_sourceOf 106 = .ok (.ifCond .eq 10, 3) := by decide +kernel
theorem dX7_sourceOf_109 : decode cX7_sourceOf 109 = .ok (.aload 6, 2) := by decide +kernel
theorem dX7_sourceOf_111 : decode cX7_sourceOf 111 = .ok (.astore_n 3, 1) := by decide +kernel
theorem dX7_sourceOf_112 : decode cX7_sourceOf 112 = .ok (.iload 7, 2) := by decide +kernel
theorem dX7_sourceOf_114 : decode cX7_sourceOf 114 = .ok (.istore 4, 2) := by decide +kernel
theorem dX7_sourceOf_116 : decode cX7_sourceOf 116 = .ok (.iinc 5 1, 3) := by decide +kernel
theorem dX7_sourceOf_119 : decode cX7_sourceOf 119 = .ok (.goto (-105), 3) := by decide +kernel
theorem dX7_sourceOf_122 : decode cX7_sourceOf 122 = .ok (.aload_n 3, 1) := by decide +kernel
theorem dX7_sourceOf_123 : decode cX7_sourceOf 123 = .ok (.areturn, 1) := by decide +kernel
theorem dX7_changesOf_0 : decode cX7_changesOf 0 = .ok (.aload_n 0, 1) := by decide +kernel
theorem dX7_changesOf_1 : decode cX7_changesOf 1 = .ok (.aload_n 1, 1) := by decide +kernel
theorem dX7_changesOf_2 : decode cX7_changesOf 2 = .ok (.iload_n 2, 1) := by decide +kernel
theorem dX7_changesOf_3 : decode cX7_changesOf 3 = .ok (.invokevirtual 191, 3) := by decide +kernel
theorem dX7_changesOf_6 : decode cX7_changesOf 6 = .ok (.astore_n 3, 1) := by decide +kernel
theorem dX7_changesOf_7 : decode cX7_changesOf 7 = .ok (.aload_n 3, 1) := by decide +kernel
theorem dX7_changesOf_8 : decode cX7_changesOf 8 = .ok (.ifnonnull 13, 3) := by decide +kernel
theorem dX7_changesOf_11 : decode cX7_changesOf 11 = .ok (.aload_n 0, 1) := by decide +kernel
theorem dX7_changesOf_12 : decode cX7_changesOf 12 = .ok (.getfield 12, 3) := by decide +kernel
theorem dX7_changesOf_15 : decode cX7_changesOf 15 = .ok (.invokevirtual 238, 3) := by decide +kernel
theorem dX7_changesOf_18 : decode cX7_changesOf 18 = .ok (.goto 12, 3) := by decide +kernel
theorem dX7_changesOf_21 : decode cX7_changesOf 21 = .ok (.aload_n 0, 1) := by decide +kernel
theorem dX7_changesOf_22 : decode cX7_changesOf 22 = .ok (.getfield 30, 3) := by decide +kernel
theorem dX7_changesOf_25 : decode cX7_changesOf 25 = .ok (.aload_n 1, 1) := by decide +kernel
theorem dX7_changesOf_26 : decode cX7_changesOf 26 = .ok (.aload_n 3, 1) := by decide +kernel
theorem dX7_changesOf_27 : decode cX7_changesOf 27 = .ok (.invokevirtual 154, 3) := by decide +kernel
theorem dX7_changesOf_30 : decode cX7_changesOf 30 = .ok (.ireturn, 1) := by decide +kernel
theorem dX7_rivalsOf_0 : decode cX7_rivalsOf 0 = .ok (.aload_n 0, 1) := by decide +kernel
theorem dX7_rivalsOf_1 : decode cX7_rivalsOf 1 = .ok (.getfield 30, 3) := by decide +kernel
theorem dX7_rivalsOf_4 : decode cX7_rivalsOf 4 = .ok (.aload_n 1, 1) := by decide +kernel
theorem dX7_rivalsOf_5 : decode cX7_rivalsOf 5 = .ok (.aload_n 2, 1) := by decide +kernel
theorem dX7_rivalsOf_6 : decode cX7_rivalsOf 6 = .ok (.invokevirtual 154, 3) := by decide +kernel
theorem dX7_rivalsOf_9 : decode cX7_rivalsOf 9 = .ok (.iload_n 3, 1) := by decide +kernel
theorem dX7_rivalsOf_10 : decode cX7_rivalsOf 10 = .ok (.iadd, 1) := by decide +kernel
theorem dX7_rivalsOf_11 : decode cX7_rivalsOf 11 = .ok (.istore 5, 2) := by decide +kernel
theorem dX7_rivalsOf_13 : decode cX7_rivalsOf 13 = .ok (.iconst 0, 1) := by decide +kernel
theorem dX7_rivalsOf_14 : decode cX7_rivalsOf 14 = .ok (.istore 6, 2) := by decide +kernel
theorem dX7_rivalsOf_16 : decode cX7_rivalsOf 16 = .ok (.iconst 0, 1) := by decide +kernel
theorem dX7_rivalsOf_17 : decode cX7_rivalsOf 17 = .ok (.istore 7, 2) := by decide +kernel
theorem dX7_rivalsOf_19 : decode cX7_rivalsOf 19 = .ok (.iload 7, 2) := by decide +kernel
theorem dX7_rivalsOf_21 : decode cX7_rivalsOf 21 = .ok (.aload_n 0, 1) := by decide +kernel
theorem dX7_rivalsOf_22 : decode cX7_rivalsOf 22 = .ok (.getfield 37, 3) := by decide +kernel
theorem dX7_rivalsOf_25 : decode cX7_rivalsOf 25 = .ok (.invokevirtual 51, 3) := by decide +kernel
theorem dX7_rivalsOf_28 : decode cX7_rivalsOf 28 = .ok (.if_icmp .ge 78, 3) := by decide +kernel
theorem dX7_rivalsOf_31 : decode cX7_rivalsOf 31 = .ok (.aload_n 0, 1) := by decide +kernel
theorem dX7_rivalsOf_32 : decode cX7_rivalsOf 32 = .ok (.getfield 37, 3) := by decide +kernel
theorem dX7_rivalsOf_35 : decode cX7_rivalsOf 35 = .ok (.iload 7, 2) := by decide +kernel
theorem dX7_rivalsOf_37 : decode cX7_rivalsOf 37 = .ok (.invokevirtual 172, 3) := by decide +kernel
theorem dX7_rivalsOf_40 : decode cX7_rivalsOf 40 = .ok (.checkcast 66, 3) := by decide +kernel
theorem dX7_rivalsOf_43 : decode cX7_rivalsOf 43 = .ok (.astore 8, 2) := by decide +kernel
theorem dX7_rivalsOf_45 : decode cX7_rivalsOf 45 = .ok (.aload 8, 2) := by decide +kernel
theorem dX7_rivalsOf_47 : decode cX7_rivalsOf 47 = .ok (.aload_n 2, 1) := by decide +kernel
theorem dX7_rivalsOf_48 : decode cX7_rivalsOf 48 = .ok (.if_acmp .eq 26, 3) := by decide +kernel
theorem dX7_rivalsOf_51 : decode cX7_rivalsOf 51 = .ok (.aload 8, 2) := by decide +kernel
theorem dX7_rivalsOf_53 : decode cX7_rivalsOf 53 = .ok (.aload_n 1, 1) := by decide +kernel
theorem dX7_rivalsOf_54 : decode cX7_rivalsOf 54 = .ok (.invokevirtual 241, 3) := by decide +kernel
theorem dX7_rivalsOf_57 : decode cX7_rivalsOf 57 = .ok (.ifCond .eq 17, 3) := by decide +kernel
theorem dX7_rivalsOf_60 : decode cX7_rivalsOf 60 = .ok (.aload 8, 2) := by decide +kernel
theorem dX7_rivalsOf_62 : decode cX7_rivalsOf 62 = .ok (.iload 4, 2) := by decide +kernel
theorem dX7_rivalsOf_64 : decode cX7_rivalsOf 64 = .ok (.invokevirtual 104, 3) := by decide +kernel
theorem dX7_rivalsOf_67 : decode cX7_rivalsOf 67 = .ok (.ifCond .ne 7, 3) := by decide +kernel
theorem dX7_rivalsOf_70 : decode cX7_rivalsOf 70 = .ok (.iconst 1, 1) := by decide +kernel
theorem dX7_rivalsOf_71 : decode cX7_rivalsOf 71 = .ok (.goto 4, 3) := by decide +kernel
theorem dX7_rivalsOf_74 : decode cX7_rivalsOf 74 = .ok (.iconst 0, 1) := by decide +kernel
theorem dX7_rivalsOf_75 : decode cX7_rivalsOf 75 = .ok (.istore 9, 2) := by decide +kernel
theorem dX7_rivalsOf_77 : decode cX7_rivalsOf 77 = .ok (.iload 9, 2) := by decide +kernel
theorem dX7_rivalsOf_79 : decode cX7_rivalsOf 79 = .ok (.ifCond .eq 21, 3) := by decide +kernel
theorem dX7_rivalsOf_82 : decode cX7_rivalsOf 82 = .ok (.aload_n 0, 1) := by decide +kernel
theorem dX7_rivalsOf_83 : decode cX7_rivalsOf 83 = .ok (.getfield 30, 3) := by decide +kernel
theorem dX7_rivalsOf_86 : decode cX7_rivalsOf 86 = .ok (.aload_n 1, 1) := by decide +kernel
theorem dX7_rivalsOf_87 : decode cX7_rivalsOf 87 = .ok (.aload 8, 2) := by decide +kernel
theorem dX7_rivalsOf_89 : decode cX7_rivalsOf 89 = .ok (.invokevirtual 154, 3) := by decide +kernel
theorem dX7_rivalsOf_92 : decode cX7_rivalsOf 92 = .ok (.iload 5, 2) := by decide +kernel
theorem dX7_rivalsOf_94 : decode cX7_rivalsOf 94 = .ok (.if_icmp .gt 6, 3) := by decide +kernel
theorem dX7_rivalsOf_97 : decode cX7_rivalsOf 97 = .ok (.iinc 6 1, 3) := by decide +kernel
theorem dX7_rivalsOf_100 : decode cX7_rivalsOf 100 = .ok (.iinc 7 1, 3) := by decide +kernel
theorem dX7_rivalsOf_103 : decode cX7_rivalsOf 103 = .ok (.goto (-84), 3) := by decide +kernel
theorem dX7_rivalsOf_106 : decode cX7_rivalsOf 106 = .ok (.iload 6, 2) := by decide +kernel
theorem dX7_rivalsOf_108 : decode cX7_rivalsOf 108 = .ok (.ireturn, 1) := by decide +kernel
theorem dX7_habitIn_0 : decode cX7_habitIn 0 = .ok (.aload_n 0, 1) := by decide +kernel
theorem dX7_habitIn_1 : decode cX7_habitIn 1 = .ok (.aload_n 1, 1) := by decide +kernel
theorem dX7_habitIn_2 : decode cX7_habitIn 2 = .ok (.aload_n 2, 1) := by decide +kernel
theorem dX7_habitIn_3 : decode cX7_habitIn 3 = .ok (.invokevirtual 161, 3) := by decide +kernel
theorem dX7_habitIn_6 : decode cX7_habitIn 6 = .ok (.iload_n 3, 1) := by decide +kernel
theorem dX7_habitIn_7 : decode cX7_habitIn 7 = .ok (.ifCond .ne 21, 3) := by decide +kernel
theorem dX7_habitIn_10 : decode cX7_habitIn 10 = .ok (.aload_n 0, 1) := by decide +kernel
theorem dX7_habitIn_11 : decode cX7_habitIn 11 = .ok (.getfield 21, 3) := by decide +kernel
theorem dX7_habitIn_14 : decode cX7_habitIn 14 = .ok (.aload_n 1, 1) := by decide +kernel
theorem dX7_habitIn_15 : decode cX7_habitIn 15 = .ok (.getfield 141, 3) := by decide +kernel
theorem dX7_habitIn_18 : decode cX7_habitIn 18 = .ok (.aload_n 2, 1) := by decide +kernel
theorem dX7_habitIn_19 : decode cX7_habitIn 19 = .ok (.getfield 141, 3) := by decide +kernel
theorem dX7_habitIn_22 : decode cX7_habitIn 22 = .ok (.invokevirtual 244, 3) := by decide +kernel
theorem dX7_habitIn_25 : decode cX7_habitIn 25 = .ok (.goto 18, 3) := by decide +kernel
theorem dX7_habitIn_28 : decode cX7_habitIn 28 = .ok (.aload_n 0, 1) := by decide +kernel
theorem dX7_habitIn_29 : decode cX7_habitIn 29 = .ok (.getfield 21, 3) := by decide +kernel
theorem dX7_habitIn_32 : decode cX7_habitIn 32 = .ok (.aload_n 1, 1) := by decide +kernel
theorem dX7_habitIn_33 : decode cX7_habitIn 33 = .ok (.getfield 141, 3) := by decide +kernel
theorem dX7_habitIn_36 : decode cX7_habitIn 36 = .ok (.aload_n 2, 1) := by decide +kernel
theorem dX7_habitIn_37 : decode cX7_habitIn 37 = .ok (.getfield 141, 3) := by decide +kernel
theorem dX7_habitIn_40 : decode cX7_habitIn 40 = .ok (.invokevirtual 248, 3) := by decide +kernel
theorem dX7_habitIn_43 : decode cX7_habitIn 43 = .ok (.ireturn, 1) := by decide +kernel
theorem dJ9_abs_0f7a4_0 : decode cJ9_abs_0f7a4 0 = .ok (.iload_n 0, 1) := by decide +kernel
theorem dJ9_abs_0f7a4_1 : decode cJ9_abs_0f7a4 1 = .ok (.ifCond .ge 8, 3) := by decide +kernel
theorem dJ9_abs_0f7a4_4 : decode cJ9_abs_0f7a4 4 = .ok (.iload_n 0, 1) := by decide +kernel
theorem dJ9_abs_0f7a4_5 : decode cJ9_abs_0f7a4 5 = .ok (.ineg, 1) := by decide +kernel
theorem dJ9_abs_0f7a4_6 : decode cJ9_abs_0f7a4 6 = .ok (.goto 4, 3) := by decide +kernel
theorem dJ9_abs_0f7a4_9 : decode cJ9_abs_0f7a4 9 = .ok (.iload_n 0, 1) := by decide +kernel
theorem dJ9_abs_0f7a4_10 : decode cJ9_abs_0f7a4 10 = .ok (.ireturn, 1) := by decide +kernel
theorem dJ9_max_7cf53_0 : decode cJ9_max_7cf53 0 = .ok (.iload_n 0, 1) := by decide +kernel
theorem dJ9_max_7cf53_1 : decode cJ9_max_7cf53 1 = .ok (.iload_n 1, 1) := by decide +kernel
theorem dJ9_max_7cf53_2 : decode cJ9_max_7cf53 2 = .ok (.if_icmp .lt 7, 3) := by decide +kernel
theorem dJ9_max_7cf53_5 : decode cJ9_max_7cf53 5 = .ok (.iload_n 0, 1) := by decide +kernel
theorem dJ9_max_7cf53_6 : decode cJ9_max_7cf53 6 = .ok (.goto 4, 3) := by decide +kernel
theorem dJ9_max_7cf53_9 : decode cJ9_max_7cf53 9 = .ok (.iload_n 1, 1) := by decide +kernel
theorem dJ9_max_7cf53_10 : decode cJ9_max_7cf53 10 = .ok (.ireturn, 1) := by decide +kernel
theorem dJ9_min_7cf53_0 : decode cJ9_min_7cf53 0 = .ok (.iload_n 0, 1) := by decide +kernel
theorem dJ9_min_7cf53_1 : decode cJ9_min_7cf53 1 = .ok (.iload_n 1, 1) := by decide +kernel
theorem dJ9_min_7cf53_2 : decode cJ9_min_7cf53 2 = .ok (.if_icmp .gt 7, 3) := by decide +kernel
theorem dJ9_min_7cf53_5 : decode cJ9_min_7cf53 5 = .ok (.iload_n 0, 1) := by decide +kernel
theorem dJ9_min_7cf53_6 : decode cJ9_min_7cf53 6 = .ok (.goto 4, 3) := by decide +kernel
theorem dJ9_min_7cf53_9 : decode cJ9_min_7cf53 9 = .ok (.iload_n 1, 1) := by decide +kernel
theorem dJ9_min_7cf53_10 : decode cJ9_min_7cf53 10 = .ok (.ireturn, 1) := by decide +kernel
theorem dJxa1e45_init_da8c8_0 : decode cJxa1e45_init_da8c8 0 = .ok (.aload_n 0, 1) := by decide +kernel
theorem dJxa1e45_init_da8c8_1 : decode cJxa1e45_init_da8c8 1 = .ok (.invokespecial 1, 3) := by decide +kernel
theorem dJxa1e45_init_da8c8_4 : decode cJxa1e45_init_da8c8 4 = .ok (.return_, 1) := by decide +kernel
theorem dJxc12de_init_da8c8_0 : decode cJxc12de_init_da8c8 0 = .ok (.aload_n 0, 1) := by decide +kernel
theorem dJxc12de_init_da8c8_1 : decode cJxc12de_init_da8c8 1 = .ok (.invokespecial 1, 3) := by decide +kernel
theorem dJxc12de_init_da8c8_4 : decode cJxc12de_init_da8c8 4 = .ok (.aload_n 0, 1) := by decide +kernel
theorem dJxc12de_init_da8c8_5 : decode cJxc12de_init_da8c8 5 = .ok (.iconst 0, 1) := by decide +kernel
theorem dJxc12de_init_da8c8_6 : decode cJxc12de_init_da8c8 6 = .ok (.putfield 7, 3) := by decide +kernel
theorem dJxc12de_init_da8c8_9 : decode cJxc12de_init_da8c8 9 = .ok (.return_, 1) := by decide +kernel
theorem dJx4a65c_init_da8c8_0 : decode cJx4a65c_init_da8c8 0 = .ok (.aload_n 0, 1) := by decide +kernel
theorem dJx4a65c_init_da8c8_1 : decode cJx4a65c_init_da8c8 1 = .ok (.invokespecial 1, 3) := by decide +kernel
theorem dJx4a65c_init_da8c8_4 : decode cJx4a65c_init_da8c8 4 = .ok (.aload_n 0, 1) := by decide +kernel
theorem dJx4a65c_init_da8c8_5 : decode cJx4a65c_init_da8c8 5 = .ok (.getstatic 39, 3) := by decide +kernel
theorem dJx4a65c_init_da8c8_8 : decode cJx4a65c_init_da8c8 8 = .ok (.putfield 9, 3) := by decide +kernel
theorem dJx4a65c_init_da8c8_11 : decode cJx4a65c_init_da8c8 11 = .ok (.return_, 1) := by decide +kernel
theorem dJx4a65c_grow_92f84_0 : decode cJx4a65c_grow_92f84 0 = .ok (.aload_n 0, 1) := by decide +kernel
theorem dJx4a65c_grow_92f84_1 : decode cJx4a65c_grow_92f84 1 = .ok (.getfield 9, 3) := by decide +kernel
theorem dJx4a65c_grow_92f84_4 : decode cJx4a65c_grow_92f84 4 = .ok (.arraylength, 1) := by decide +kernel
theorem dJx4a65c_grow_92f84_5 : decode cJx4a65c_grow_92f84 5 = .ok (.istore_n 2, 1) := by decide +kernel
theorem dJx4a65c_grow_92f84_6 : decode cJx4a65c_grow_92f84 6 = .ok (.iload_n 2, 1) := by decide +kernel
theorem dJx4a65c_grow_92f84_7 : decode cJx4a65c_grow_92f84 7 = .ok (.ifCond .gt 13, 3) := by decide +kernel
theorem dJx4a65c_grow_92f84_10 : decode cJx4a65c_grow_92f84 10 = .ok (.aload_n 0, 1) := by decide +kernel
theorem dJx4a65c_grow_92f84_11 : decode cJx4a65c_grow_92f84 11 = .ok (.getfield 9, 3) := by decide +kernel
theorem dJx4a65c_grow_92f84_14 : decode cJx4a65c_grow_92f84 14 = .ok (.getstatic 39, 3) := by decide +kernel
theorem dJx4a65c_grow_92f84_17 : decode cJx4a65c_grow_92f84 17 = .ok (.if_acmp .eq 28, 3) := by decide +kernel
theorem dJx4a65c_grow_92f84_20 : decode cJx4a65c_grow_92f84 20 = .ok (.iload_n 2, 1) := by decide +kernel
theorem dJx4a65c_grow_92f84_21 : decode cJx4a65c_grow_92f84 21 = .ok (.iload_n 1, 1) := by decide +kernel
theorem dJx4a65c_grow_92f84_22 : decode cJx4a65c_grow_92f84 22 = .ok (.iload_n 2, 1) := by decide +kernel
theorem dJx4a65c_grow_92f84_23 : decode cJx4a65c_grow_92f84 23 = .ok (.isub, 1) := by decide +kernel
theorem dJx4a65c_grow_92f84_24 : decode cJx4a65c_grow_92f84 24 = .ok (.iload_n 2, 1) := by decide +kernel
theorem dJx4a65c_grow_92f84_25 : decode cJx4a65c_grow_92f84 25 = .ok (.iconst 1, 1) := by decide +kernel
theorem dJx4a65c_grow_92f84_26 : decode cJx4a65c_grow_92f84 26 = .ok (.ishr, 1) := by decide +kernel
theorem dJx4a65c_grow_92f84_27 : decode cJx4a65c_grow_92f84 27 = .ok (.invokestatic 73, 3) := by decide +kernel
theorem dJx4a65c_grow_92f84_30 : decode cJx4a65c_grow_92f84 30 = .ok (.istore_n 3, 1) := by decide +kernel
theorem dJx4a65c_grow_92f84_31 : decode cJx4a65c_grow_92f84 31 = .ok (.aload_n 0, 1) := by decide +kernel
theorem dJx4a65c_grow_92f84_32 : decode cJx4a65c_grow_92f84 32 = .ok (.aload_n 0, 1) := by decide +kernel
theorem dJx4a65c_grow_92f84_33 : decode cJx4a65c_grow_92f84 33 = .ok (.getfield 9, 3) := by decide +kernel
theorem dJx4a65c_grow_92f84_36 : decode cJx4a65c_grow_92f84 36 = .ok (.iload_n 3, 1) := by decide +kernel
theorem dJx4a65c_grow_92f84_37 : decode cJx4a65c_grow_92f84 37 = .ok (.invokestatic 66, 3) := by decide +kernel
theorem dJx4a65c_grow_92f84_40 : decode cJx4a65c_grow_92f84 40 = .ok (.dup_x1, 1) := by decide +kernel
theorem dJx4a65c_grow_92f84_41 : decode cJx4a65c_grow_92f84 41 = .ok (.putfield 9, 3) := by decide +kernel
theorem dJx4a65c_grow_92f84_44 : decode cJx4a65c_grow_92f84 44 = .ok (.areturn, 1) := by decide +kernel
theorem dJx4a65c_grow_92f84_45 : decode cJx4a65c_grow_92f84 45 = .ok (.aload_n 0, 1) := by decide +kernel
theorem dJx4a65c_grow_92f84_46 : decode cJx4a65c_grow_92f84 46 = .ok (.bipush 10, 2) := by decide +kernel
theorem dJx4a65c_grow_92f84_48 : decode cJx4a65c_grow_92f84 48 = .ok (.iload_n 1, 1) := by decide +kernel
theorem dJx4a65c_grow_92f84_49 : decode cJx4a65c_grow_92f84 49 = .ok (.invokestatic 79, 3) := by decide +kernel
theorem dJx4a65c_grow_92f84_52 : decode cJx4a65c_grow_92f84 52 = .ok (.anewarray 7, 3) := by decide +kernel
theorem dJx4a65c_grow_92f84_55 : decode cJx4a65c_grow_92f84 55 = .ok (.dup_x1, 1) := by decide +kernel
theorem dJx4a65c_grow_92f84_56 : decode cJx4a65c_grow_92f84 56 = .ok (.putfield 9, 3) := by decide +kernel
theorem dJx4a65c_grow_92f84_59 : decode cJx4a65c_grow_92f84 59 = .ok (.areturn, 1) := by decide +kernel
theorem dJx4a65c_grow_d5877_0 : decode cJx4a65c_grow_d5877 0 = .ok (.aload_n 0, 1) := by decide +kernel
theorem dJx4a65c_grow_d5877_1 : decode cJx4a65c_grow_d5877 1 = .ok (.aload_n 0, 1) := by decide +kernel
theorem dJx4a65c_grow_d5877_2 : decode cJx4a65c_grow_d5877 2 = .ok (.getfield 48, 3) := by decide +kernel
theorem dJx4a65c_grow_d5877_5 : decode cJx4a65c_grow_d5877 5 = .ok (.iconst 1, 1) := by decide +kernel
theorem dJx4a65c_grow_d5877_6 : decode cJx4a65c_grow_d5877 6 = .ok (.iadd, 1) := by decide +kernel
theorem dJx4a65c_grow_d5877_7 : decode cJx4a65c_grow_d5877 7 = .ok (.invokevirtual 69, 3) := by decide +kernel
theorem dJx4a65c_grow_d5877_10 : decode cJx4a65c_grow_d5877 10 = .ok (.areturn, 1) := by decide +kernel
theorem dJx4a65c_size_8abf5_0 : decode cJx4a65c_size_8abf5 0 = .ok (.aload_n 0, 1) := by decide +kernel
theorem dJx4a65c_size_8abf5_1 : decode cJx4a65c_size_8abf5 1 = .ok (.getfield 48, 3) := by decide +kernel
theorem dJx4a65c_size_8abf5_4 : decode cJx4a65c_size_8abf5 4 = .ok (.ireturn, 1) := by decide +kernel
theorem dJx4a65c_elementData_915e3_0 : decode cJx4a65c_elementData_915e3 0 = .ok (.aload_n 0, 1) := by decide +kernel
theorem dJx4a65c_elementData_915e3_1 : decode cJx4a65c_elementData_915e3 1 = .ok (.getfield 9, 3) := by decide +kernel
theorem dJx4a65c_elementData_915e3_4 : decode cJx4a65c_elementData_915e3 4 = .ok (.iload_n 1, 1) := by decide +kernel
theorem dJx4a65c_elementData_915e3_5 : decode cJx4a65c_elementData_915e3 5 = .ok (.aaload, 1) := by decide +kernel
theorem dJx4a65c_elementData_915e3_6 : decode cJx4a65c_elementData_915e3 6 = .ok (.areturn, 1) := by decide +kernel
theorem dJx4a65c_get_915e3_0 : decode cJx4a65c_get_915e3 0 = .ok (.iload_n 1, 1) := by decide +kernel
theorem dJx4a65c_get_915e3_1 : decode cJx4a65c_get_915e3 1 = .ok (.aload_n 0, 1) := by decide +kernel
theorem dJx4a65c_get_915e3_2 : decode cJx4a65c_get_915e3 2 = .ok (.getfield 48, 3) := by decide +kernel
theorem dJx4a65c_get_915e3_5 : decode cJx4a65c_get_915e3 5 = .ok (.invokestatic 118, 3) := by decide +kernel
theorem dJx4a65c_get_915e3_8 : decode cJx4a65c_get_915e3 8 = .ok (.pop, 1) := by decide +kernel
theorem dJx4a65c_get_915e3_9 : decode cJx4a65c_get_915e3 9 = .ok (.aload_n 0, 1) := by decide +kernel
theorem dJx4a65c_get_915e3_10 : decode cJx4a65c_get_915e3 10 = .ok (.iload_n 1, 1) := by decide +kernel
theorem dJx4a65c_get_915e3_11 : decode cJx4a65c_get_915e3 11 = .ok (.invokevirtual 123, 3) := by decide +kernel
theorem dJx4a65c_get_915e3_14 : decode cJx4a65c_get_915e3 14 = .ok (.areturn, 1) := by decide +kernel
theorem dJx4a65c_add_72be8_0 : decode cJx4a65c_add_72be8 0 = .ok (.iload_n 3, 1) := by decide +kernel
theorem dJx4a65c_add_72be8_1 : decode cJx4a65c_add_72be8 1 = .ok (.aload_n 2, 1) := by decide +kernel
theorem dJx4a65c_add_72be8_2 : decode cJx4a65c_add_72be8 2 = .ok (.arraylength, 1) := by decide +kernel
theorem dJx4a65c_add_72be8_3 : decode cJx4a65c_add_72be8 3 = .ok (.if_icmp .ne 8, 3) := by decide +kernel
theorem dJx4a65c_add_72be8_6 : decode cJx4a65c_add_72be8 6 = .ok (.aload_n 0, 1) := by decide +kernel
theorem dJx4a65c_add_72be8_7 : decode cJx4a65c_add_72be8 7 = .ok (.invokevirtual 129, 3) := by decide +kernel
theorem dJx4a65c_add_72be8_10 : decode cJx4a65c_add_72be8 10 = .ok (.astore_n 2, 1) := by decide +kernel
theorem dJx4a65c_add_72be8_11 : decode cJx4a65c_add_72be8 11 = .ok (.aload_n 2, 1) := by decide +kernel
theorem dJx4a65c_add_72be8_12 : decode cJx4a65c_add_72be8 12 = .ok (.iload_n 3, 1) := by decide +kernel
theorem dJx4a65c_add_72be8_13 : decode cJx4a65c_add_72be8 13 = .ok (.aload_n 1, 1) := by decide +kernel
theorem dJx4a65c_add_72be8_14 : decode cJx4a65c_add_72be8 14 = .ok (.aastore, 1) := by decide +kernel
theorem dJx4a65c_add_72be8_15 : decode cJx4a65c_add_72be8 15 = .ok (.aload_n 0, 1) := by decide +kernel
theorem dJx4a65c_add_72be8_16 : decode cJx4a65c_add_72be8 16 = .ok (.iload_n 3, 1) := by decide +kernel
theorem dJx4a65c_add_72be8_17 : decode cJx4a65c_add_72be8 17 = .ok (.iconst 1, 1) := by decide +kernel
theorem dJx4a65c_add_72be8_18 : decode cJx4a65c_add_72be8 18 = .ok (.iadd, 1) := by decide +kernel
theorem dJx4a65c_add_72be8_19 : decode cJx4a65c_add_72be8 19 = .ok (.putfield 48, 3) := by decide +kernel
theorem dJx4a65c_add_72be8_22 : decode cJx4a65c_add_72be8 22 = .ok (.return_, 1) := by decide +kernel
theorem dJx4a65c_add_9ea2d_0 : decode cJx4a65c_add_9ea2d 0 = .ok (.aload_n 0, 1) := by decide +kernel
theorem dJx4a65c_add_9ea2d_1 : decode cJx4a65c_add_9ea2d 1 = .ok (.dup, 1) := by decide +kernel
theorem dJx4a65c_add_9ea2d_2 : decode cJx4a65c_add_9ea2d 2 = .ok (.getfield 63, 3) := by decide +kernel
theorem dJx4a65c_add_9ea2d_5 : decode cJx4a65c_add_9ea2d 5 = .ok (.iconst 1, 1) := by decide +kernel
theorem dJx4a65c_add_9ea2d_6 : decode cJx4a65c_add_9ea2d 6 = .ok (.iadd, 1) := by decide +kernel
theorem dJx4a65c_add_9ea2d_7 : decode cJx4a65c_add_9ea2d 7 = .ok (.putfield 63, 3) := by decide +kernel
theorem dJx4a65c_add_9ea2d_10 : decode cJx4a65c_add_9ea2d 10 = .ok (.aload_n 0, 1) := by decide +kernel
theorem dJx4a65c_add_9ea2d_11 : decode cJx4a65c_add_9ea2d 11 = .ok (.aload_n 1, 1) := by decide +kernel
theorem dJx4a65c_add_9ea2d_12 : decode cJx4a65c_add_9ea2d 12 = .ok (.aload_n 0, 1) := by decide +kernel
theorem dJx4a65c_add_9ea2d_13 : decode cJx4a65c_add_9ea2d 13 = .ok (.getfield 9, 3) := by decide +kernel
theorem dJx4a65c_add_9ea2d_16 : decode cJx4a65c_add_9ea2d 16 = .ok (.aload_n 0, 1) := by decide +kernel
theorem dJx4a65c_add_9ea2d_17 : decode cJx4a65c_add_9ea2d 17 = .ok (.getfield 48, 3) := by decide +kernel
theorem dJx4a65c_add_9ea2d_20 : decode cJx4a65c_add_9ea2d 20 = .ok (.invokevirtual 131, 3) := by decide +kernel
theorem dJx4a65c_add_9ea2d_23 : decode cJx4a65c_add_9ea2d 23 = .ok (.iconst 1, 1) := by decide +kernel
theorem dJx4a65c_add_9ea2d_24 : decode cJx4a65c_add_9ea2d 24 = .ok (.ireturn, 1) := by decide +kernel
theorem dJx4a65c_clear_da8c8_0 : decode cJx4a65c_clear_da8c8 0 = .ok (.aload_n 0, 1) := by decide +kernel
theorem dJx4a65c_clear_da8c8_1 : decode cJx4a65c_clear_da8c8 1 = .ok (.dup, 1) := by decide +kernel
theorem dJx4a65c_clear_da8c8_2 : decode cJx4a65c_clear_da8c8 2 = .ok (.getfield 63, 3) := by decide +kernel
theorem dJx4a65c_clear_da8c8_5 : decode cJx4a65c_clear_da8c8 5 = .ok (.iconst 1, 1) := by decide +kernel
theorem dJx4a65c_clear_da8c8_6 : decode cJx4a65c_clear_da8c8 6 = .ok (.iadd, 1) := by decide +kernel
theorem dJx4a65c_clear_da8c8_7 : decode cJx4a65c_clear_da8c8 7 = .ok (.putfield 63, 3) := by decide +kernel
theorem dJx4a65c_clear_da8c8_10 : decode cJx4a65c_clear_da8c8 10 = .ok (.aload_n 0, 1) := by decide +kernel
theorem dJx4a65c_clear_da8c8_11 : decode cJx4a65c_clear_da8c8 11 = .ok (.getfield 9, 3) := by decide +kernel
theorem dJx4a65c_clear_da8c8_14 : decode cJx4a65c_clear_da8c8 14 = .ok (.astore_n 1, 1) := by decide +kernel
theorem dJx4a65c_clear_da8c8_15 : decode cJx4a65c_clear_da8c8 15 = .ok (.aload_n 0, 1) := by decide +kernel
theorem dJx4a65c_clear_da8c8_16 : decode cJx4a65c_clear_da8c8 16 = .ok (.getfield 48, 3) := by decide +kernel
theorem dJx4a65c_clear_da8c8_19 : decode cJx4a65c_clear_da8c8 19 = .ok (.istore_n 2, 1) := by decide +kernel
theorem dJx4a65c_clear_da8c8_20 : decode cJx4a65c_clear_da8c8 20 = .ok (.aload_n 0, 1) := by decide +kernel
theorem dJx4a65c_clear_da8c8_21 : decode cJx4a65c_clear_da8c8 21 = .ok (.iconst 0, 1) := by decide +kernel
theorem dJx4a65c_clear_da8c8_22 : decode cJx4a65c_clear_da8c8 22 = .ok (.dup_x1, 1) := by decide +kernel
theorem dJx4a65c_clear_da8c8_23 : decode cJx4a65c_clear_da8c8 23 = .ok (.putfield 48, 3) := by decide +kernel
theorem dJx4a65c_clear_da8c8_26 : decode cJx4a65c_clear_da8c8 26 = .ok (.istore_n 3, 1) := by decide +kernel
theorem dJx4a65c_clear_da8c8_27 : decode cJx4a65c_clear_da8c8 27 = .ok (.iload_n 3, 1) := by decide +kernel
theorem dJx4a65c_clear_da8c8_28 : decode cJx4a65c_clear_da8c8 28 = .ok (.iload_n 2, 1) := by decide +kernel
theorem dJx4a65c_clear_da8c8_29 : decode cJx4a65c_clear_da8c8 29 = .ok (.if_icmp .ge 13, 3) := by decide +kernel
theorem dJx4a65c_clear_da8c8_32 : decode cJx4a65c_clear_da8c8 32 = .ok (.aload_n 1, 1) := by decide +kernel
theorem dJx4a65c_clear_da8c8_33 : decode cJx4a65c_clear_da8c8 33 = .ok (.iload_n 3, 1) := by decide +kernel
theorem dJx4a65c_clear_da8c8_34 : decode cJx4a65c_clear_da8c8 34 = .ok (.aconst_null, 1) := by decide +kernel
theorem dJx4a65c_clear_da8c8_35 : decode cJx4a65c_clear_da8c8 35 = .ok (.aastore, 1) := by decide +kernel
theorem dJx4a65c_clear_da8c8_36 : decode cJx4a65c_clear_da8c8 36 = .ok (.iinc 3 1, 3) := by decide +kernel
theorem dJx4a65c_clear_da8c8_39 : decode cJx4a65c_clear_da8c8 39 = .ok (.goto (-12), 3) := by decide +kernel
theorem dJx4a65c_clear_da8c8_42 : decode cJx4a65c_clear_da8c8 42 = .ok (.return_, 1) := by decide +kernel
theorem dJ7_copyOf_1904c_0 : decode cJ7_copyOf_1904c 0 = .ok (.aload_n 0, 1) := by decide +kernel
theorem dJ7_copyOf_1904c_1 : decode cJ7_copyOf_1904c 1 = .ok (.iload_n 1, 1) := by decide +kernel
theorem dJ7_copyOf_1904c_2 : decode cJ7_copyOf_1904c 2 = .ok (.aload_n 0, 1) := by decide +kernel
theorem dJ7_copyOf_1904c_3 : decode cJ7_copyOf_1904c 3 = .ok (.invokevirtual 86, 3) := by decide +kernel
theorem dJ7_copyOf_1904c_6 : decode cJ7_copyOf_1904c 6 = .ok (.invokestatic 300, 3) := by decide +kernel
theorem dJ7_copyOf_1904c_9 : decode cJ7_copyOf_1904c 9 = .ok (.areturn, 1) := by decide +kernel
theorem dJ7_copyOf_6403c_0 : decode cJ7_copyOf_6403c 0 = .ok (.aload_n 2, 1) := by decide +kernel
theorem dJ7_copyOf_6403c_1 : decode cJ7_copyOf_6403c 1 = .ok (.ldc 110, 2) := by decide +kernel
theorem dJ7_copyOf_6403c_3 : decode cJ7_copyOf_6403c 3 = .ok (.if_acmp .ne 10, 3) := by decide +kernel
theorem dJ7_copyOf_6403c_6 : decode cJ7_copyOf_6403c 6 = .ok (.iload_n 1, 1) := by decide +kernel
theorem dJ7_copyOf_6403c_7 : decode cJ7_copyOf_6403c 7 = .ok (.anewarray 2, 3) := by decide +kernel
theorem dJ7_copyOf_6403c_10 : decode cJ7_copyOf_6403c 10 = .ok (.goto 14, 3) := by decide +kernel
theorem dJ7_copyOf_6403c_13 : decode cJ7_copyOf_6403c 13 = .ok (.aload_n 2, 1) := by decide +kernel
theorem dJ7_copyOf_6403c_14 : decode cJ7_copyOf_6403c 14 = .ok (.invokevirtual 90, 3) := by decide +kernel
theorem dJ7_copyOf_6403c_17 : decode cJ7_copyOf_6403c 17 = .ok (.iload_n 1, 1) := by decide +kernel
theorem dJ7_copyOf_6403c_18 : decode cJ7_copyOf_6403c 18 = .ok (.invokestatic 95, 3) := by decide +kernel
theorem dJ7_copyOf_6403c_21 : decode cJ7_copyOf_6403c 21 = .ok (.checkcast 110, 3) := by decide +kernel
theorem dJ7_copyOf_6403c_24 : decode cJ7_copyOf_6403c 24 = .ok (.astore_n 3, 1) := by decide +kernel
theorem dJ7_copyOf_6403c_25 : decode cJ7_copyOf_6403c 25 = .ok (.aload_n 0, 1) := by decide +kernel
theorem dJ7_copyOf_6403c_26 : decode cJ7_copyOf_6403c 26 = .ok (.iconst 0, 1) := by decide +kernel
theorem dJ7_copyOf_6403c_27 : decode cJ7_copyOf_6403c 27 = .ok (.aload_n 3, 1) := by decide +kernel
theorem dJ7_copyOf_6403c_28 : decode cJ7_copyOf_6403c 28 = .ok (.iconst 0, 1) := by decide +kernel
theorem dJ7_copyOf_6403c_29 : decode cJ7_copyOf_6403c 29 = .ok (.aload_n 0, 1) := by decide +kernel
theorem dJ7_copyOf_6403c_30 : decode cJ7_copyOf_6403c 30 = .ok (.arraylength, 1) := by decide +kernel
theorem dJ7_copyOf_6403c_31 : decode cJ7_copyOf_6403c 31 = .ok (.iload_n 1, 1) := by decide +kernel
theorem dJ7_copyOf_6403c_32 : decode cJ7_copyOf_6403c 32 = .ok (.invokestatic 304, 3) := by decide +kernel
theorem dJ7_copyOf_6403c_35 : decode cJ7_copyOf_6403c 35 = .ok (.invokestatic 150, 3) := by decide +kernel
theorem dJ7_copyOf_6403c_38 : decode cJ7_copyOf_6403c 38 = .ok (.aload_n 3, 1) := by decide +kernel
theorem dJ7_copyOf_6403c_39 : decode cJ7_copyOf_6403c 39 = .ok (.areturn, 1) := by decide +kernel
theorem dJ15_checkIndex_7cf53_0 : decode cJ15_checkIndex_7cf53 0 = .ok (.iload_n 0, 1) := by decide +kernel
theorem dJ15_checkIndex_7cf53_1 : decode cJ15_checkIndex_7cf53 1 = .ok (.iload_n 1, 1) := by decide +kernel
theorem dJ15_checkIndex_7cf53_2 : decode cJ15_checkIndex_7cf53 2 = .ok (.aconst_null, 1) := by decide +kernel
theorem dJ15_checkIndex_7cf53_3 : decode cJ15_checkIndex_7cf53 3 = .ok (.invokestatic 105, 3) := by decide +kernel
theorem dJ15_checkIndex_7cf53_6 : decode cJ15_checkIndex_7cf53 6 = .ok (.ireturn, 1) := by decide +kernel
theorem dJ8_newLength_cabcc_0 : decode cJ8_newLength_cabcc 0 = .ok (.iload_n 0, 1) := by decide +kernel
theorem dJ8_newLength_cabcc_1 : decode cJ8_newLength_cabcc 1 = .ok (.iload_n 1, 1) := by decide +kernel
theorem dJ8_newLength_cabcc_2 : decode cJ8_newLength_cabcc 2 = .ok (.iload_n 2, 1) := by decide +kernel
theorem dJ8_newLength_cabcc_3 : decode cJ8_newLength_cabcc 3 = .ok (.invokestatic 194, 3) := by decide +kernel
theorem dJ8_newLength_cabcc_6 : decode cJ8_newLength_cabcc 6 = .ok (.iadd, 1) := by decide +kernel
theorem dJ8_newLength_cabcc_7 : decode cJ8_newLength_cabcc 7 = .ok (.istore_n 3, 1) := by decide +kernel
theorem dJ8_newLength_cabcc_8 : decode cJ8_newLength_cabcc 8 = .ok (.iconst 0, 1) := by decide +kernel
theorem dJ8_newLength_cabcc_9 : decode cJ8_newLength_cabcc 9 = .ok (.iload_n 3, 1) := by decide +kernel
theorem dJ8_newLength_cabcc_10 : decode cJ8_newLength_cabcc 10 = .ok (.if_icmp .ge 11, 3) := by decide +kernel
theorem dJ8_newLength_cabcc_13 : decode cJ8_newLength_cabcc 13 = .ok (.iload_n 3, 1) := by decide +kernel
theorem dJ8_newLength_cabcc_14 : decode cJ8_newLength_cabcc 14 = .ok (.ldc 200, 2) := by decide +kernel
theorem dJ8_newLength_cabcc_16 : decode cJ8_newLength_cabcc 16 = .ok (.if_icmp .gt 5, 3) := by decide +kernel
theorem dJ8_newLength_cabcc_19 : decode cJ8_newLength_cabcc 19 = .ok (.iload_n 3, 1) := by decide +kernel
theorem dJ8_newLength_cabcc_20 : decode cJ8_newLength_cabcc 20 = .ok (.ireturn, 1) := by decide +kernel
theorem dJ8_newLength_cabcc_21 : decode cJ8_newLength_cabcc 21 = .ok (.iload_n 0, 1) := by decide +kernel
theorem dJ8_newLength_cabcc_22 : decode cJ8_newLength_cabcc 22 = .ok (.iload_n 1, 1) := by decide +kernel
theorem dJ8_newLength_cabcc_23 : decode cJ8_newLength_cabcc 23 = .ok (.invokestatic 201, 3) := by decide +kernel
theorem dJ8_newLength_cabcc_26 : decode cJ8_newLength_cabcc 26 = .ok (.ireturn, 1) := by decide +kernel
theorem dJ8_hugeLength_7cf53_0 : decode cJ8_hugeLength_7cf53 0 = .ok (.iload_n 0, 1) := by decide +kernel
theorem dJ8_hugeLength_7cf53_1 : decode cJ8_hugeLength_7cf53 1 = .ok (.iload_n 1, 1) := by decide +kernel
theorem dJ8_hugeLength_7cf53_2 : decode cJ8_hugeLength_7cf53 2 = .ok (.iadd, 1) := by decide +kernel
theorem dJ8_hugeLength_7cf53_3 : decode cJ8_hugeLength_7cf53 3 = .ok (.istore_n 2, 1) := by decide +kernel
theorem dJ8_hugeLength_7cf53_4 : decode cJ8_hugeLength_7cf53 4 = .ok (.iload_n 2, 1) := by decide +kernel
theorem dJ8_hugeLength_7cf53_5 : decode cJ8_hugeLength_7cf53 5 = .ok (.ifCond .ge 44, 3) := by decide +kernel
theorem dJ8_hugeLength_7cf53_8 : decode cJ8_hugeLength_7cf53 8 = .ok (.new 204, 3) := by decide +kernel
theorem dJ8_hugeLength_7cf53_11 : decode cJ8_hugeLength_7cf53 11 = .ok (.dup, 1) := by decide +kernel
theorem dJ8_hugeLength_7cf53_12 : decode cJ8_hugeLength_7cf53 12 = .ok (.new 89, 3) := by decide +kernel
theorem dJ8_hugeLength_7cf53_15 : decode cJ8_hugeLength_7cf53 15 = .ok (.dup, 1) := by decide +kernel
theorem dJ8_hugeLength_7cf53_16 : decode cJ8_hugeLength_7cf53 16 = .ok (.invokespecial 91, 3) := by decide +kernel
theorem dJ8_hugeLength_7cf53_19 : decode cJ8_hugeLength_7cf53 19 = .ok (.ldc 206, 2) := by decide +kernel
theorem dJ8_hugeLength_7cf53_21 : decode cJ8_hugeLength_7cf53 21 = .ok (.invokevirtual 94, 3) := by decide +kernel
theorem dJ8_hugeLength_7cf53_24 : decode cJ8_hugeLength_7cf53 24 = .ok (.iload_n 0, 1) := by decide +kernel
theorem dJ8_hugeLength_7cf53_25 : decode cJ8_hugeLength_7cf53 25 = .ok (.invokevirtual 98, 3) := by decide +kernel
theorem dJ8_hugeLength_7cf53_28 : decode cJ8_hugeLength_7cf53 28 = .ok (.ldc 208, 2) := by decide +kernel
theorem dJ8_hugeLength_7cf53_30 : decode cJ8_hugeLength_7cf53 30 = .ok (.invokevirtual 94, 3) := by decide +kernel
theorem dJ8_hugeLength_7cf53_33 : decode cJ8_hugeLength_7cf53 33 = .ok (.iload_n 1, 1) := by decide +kernel
theorem dJ8_hugeLength_7cf53_34 : decode cJ8_hugeLength_7cf53 34 = .ok (.invokevirtual 98, 3) := by decide +kernel
theorem dJ8_hugeLength_7cf53_37 : decode cJ8_hugeLength_7cf53 37 = .ok (.ldc 210, 2) := by decide +kernel
theorem dJ8_hugeLength_7cf53_39 : decode cJ8_hugeLength_7cf53 39 = .ok (.invokevirtual 94, 3) := by decide +kernel
theorem dJ8_hugeLength_7cf53_42 : decode cJ8_hugeLength_7cf53 42 = .ok (.invokevirtual 101, 3) := by decide +kernel
theorem dJ8_hugeLength_7cf53_45 : decode cJ8_hugeLength_7cf53 45 = .ok (.invokespecial 212, 3) := by decide +kernel
theorem dJ8_hugeLength_7cf53_48 : decode cJ8_hugeLength_7cf53 48 = .ok (.athrow, 1) := by decide +kernel
theorem dJ8_hugeLength_7cf53_49 : decode cJ8_hugeLength_7cf53 49 = .ok (.iload_n 2, 1) := by decide +kernel
theorem dJ8_hugeLength_7cf53_50 : decode cJ8_hugeLength_7cf53 50 = .ok (.ldc 200, 2) := by decide +kernel
theorem dJ8_hugeLength_7cf53_52 : decode cJ8_hugeLength_7cf53 52 = .ok (.if_icmp .gt 6, 3) := by decide +kernel
theorem dJ8_hugeLength_7cf53_55 : decode cJ8_hugeLength_7cf53 55 = .ok (.ldc 200, 2) := by decide +kernel
theorem dJ8_hugeLength_7cf53_57 : decode cJ8_hugeLength_7cf53 57 = .ok (.ireturn, 1) := by decide +kernel
theorem dJ8_hugeLength_7cf53_58 : decode cJ8_hugeLength_7cf53 58 = .ok (.iload_n 2, 1) := by decide +kernel
theorem dJ8_hugeLength_7cf53_59 : decode cJ8_hugeLength_7cf53 59 = .ok (.ireturn, 1) := by decide +kernel
theorem dJ3_checkIndex_8e157_0 : decode cJ3_checkIndex_8e157 0 = .ok (.iload_n 0, 1) := by decide +kernel
theorem dJ3_checkIndex_8e157_1 : decode cJ3_checkIndex_8e157 1 = .ok (.ifCond .lt 8, 3) := by decide +kernel
theorem dJ3_checkIndex_8e157_4 : decode cJ3_checkIndex_8e157 4 = .ok (.iload_n 0, 1) := by decide +kernel
theorem dJ3_checkIndex_8e157_5 : decode cJ3_checkIndex_8e157 5 = .ok (.iload_n 1, 1) := by decide +kernel
theorem dJ3_checkIndex_8e157_6 : decode cJ3_checkIndex_8e157 6 = .ok (.if_icmp .lt 10, 3) := by decide +kernel
theorem dJ3_checkIndex_8e157_9 : decode cJ3_checkIndex_8e157 9 = .ok (.aload_n 2, 1) := by decide +kernel
theorem dJ3_checkIndex_8e157_10 : decode cJ3_checkIndex_8e157 10 = .ok (.iload_n 0, 1) := by decide +kernel
theorem dJ3_checkIndex_8e157_11 : decode cJ3_checkIndex_8e157 11 = .ok (.iload_n 1, 1) := by decide +kernel
theorem dJ3_checkIndex_8e157_12 : decode cJ3_checkIndex_8e157 12 = .ok (.invokestatic 95, 3) := by decide +kernel
theorem dJ3_checkIndex_8e157_15 : decode cJ3_checkIndex_8e157 15 = .ok (.athrow, 1) := by decide +kernel
theorem dJ3_checkIndex_8e157_16 : decode cJ3_checkIndex_8e157 16 = .ok (.iload_n 0, 1) := by decide +kernel
theorem dJ3_checkIndex_8e157_17 : decode cJ3_checkIndex_8e157 17 = .ok (.ireturn, 1) := by decide +kernel
