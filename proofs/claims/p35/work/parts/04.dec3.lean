theorem dL_isTelling_103 : decode cL_isTelling 103 = .ok (.iload 9, 2) := by decide +kernel
theorem dL_isTelling_105 : decode cL_isTelling 105 = .ok (.ifCond .eq 8, 3) := by decide +kernel
theorem dL_isTelling_108 : decode cL_isTelling 108 = .ok (.ldc 26, 2) := by decide +kernel
theorem dL_isTelling_110 : decode cL_isTelling 110 = .ok (.goto 7, 3) := by decide +kernel
theorem dL_isTelling_113 : decode cL_isTelling 113 = .ok (.aload_n 1, 1) := by decide +kernel
theorem dL_isTelling_114 : decode cL_isTelling 114 = .ok (.iload 4, 2) := by decide +kernel
theorem dL_isTelling_116 : decode cL_isTelling 116 = .ok (.iaload, 1) := by decide +kernel
theorem dL_isTelling_117 : decode cL_isTelling 117 = .ok (.if_icmp .ne 7, 3) := by decide +kernel
theorem dL_isTelling_120 : decode cL_isTelling 120 = .ok (.iconst 1, 1) := by decide +kernel
theorem dL_isTelling_121 : decode cL_isTelling 121 = .ok (.goto 4, 3) := by decide +kernel
theorem dL_isTelling_124 : decode cL_isTelling 124 = .ok (.iconst 0, 1) := by decide +kernel
theorem dL_isTelling_125 : decode cL_isTelling 125 = .ok (.ireturn, 1) := by decide +kernel
theorem dL_isTelling_126 : decode cL_isTelling 126 = .ok (.iload 5, 2) := by decide +kernel
theorem dL_isTelling_128 : decode cL_isTelling 128 = .ok (.iconst 3, 1) := by decide +kernel
theorem dL_isTelling_129 : decode cL_isTelling 129 = .ok (.if_icmp .eq 9, 3) := by decide +kernel
theorem dL_isTelling_132 : decode cL_isTelling 132 = .ok (.aload_n 1, 1) := by decide +kernel
theorem dL_isTelling_133 : decode cL_isTelling 133 = .ok (.iconst 5, 1) := by decide +kernel
theorem dL_isTelling_134 : decode cL_isTelling 134 = .ok (.iaload, 1) := by decide +kernel
theorem dL_isTelling_135 : decode cL_isTelling 135 = .ok (.ifCond .ne 61, 3) := by decide +kernel
theorem dL_isTelling_138 : decode cL_isTelling 138 = .ok (.aload_n 0, 1) := by decide +kernel
theorem dL_isTelling_139 : decode cL_isTelling 139 = .ok (.iload 4, 2) := by decide +kernel
theorem dL_isTelling_141 : decode cL_isTelling 141 = .ok (.iload 6, 2) := by decide +kernel
theorem dL_isTelling_143 : decode cL_isTelling 143 = .ok (.iload 7, 2) := by decide +kernel
theorem dL_isTelling_145 : decode cL_isTelling 145 = .ok (.iload 8, 2) := by decide +kernel
theorem dL_isTelling_147 : decode cL_isTelling 147 = .ok (.invokestatic 151, 3) := by decide +kernel
theorem dL_isTelling_150 : decode cL_isTelling 150 = .ok (.istore 10, 2) := by decide +kernel
theorem dL_isTelling_152 : decode cL_isTelling 152 = .ok (.iload 9, 2) := by decide +kernel
theorem dL_isTelling_154 : decode cL_isTelling 154 = .ok (.ifCond .ne 17, 3) := by decide +kernel
theorem dL_isTelling_157 : decode cL_isTelling 157 = .ok (.aload_n 1, 1) := by decide +kernel
theorem dL_isTelling_158 : decode cL_isTelling 158 = .ok (.iload 4, 2) := by decide +kernel
theorem dL_isTelling_160 : decode cL_isTelling 160 = .ok (.iconst 0, 1) := by decide +kernel
theorem dL_isTelling_161 : decode cL_isTelling 161 = .ok (.iload 6, 2) := by decide +kernel
theorem dL_isTelling_163 : decode cL_isTelling 163 = .ok (.iload 7, 2) := by decide +kernel
theorem dL_isTelling_165 : decode cL_isTelling 165 = .ok (.iload 8, 2) := by decide +kernel
theorem dL_isTelling_167 : decode cL_isTelling 167 = .ok (.iconst 0, 1) := by decide +kernel
theorem dL_isTelling_168 : decode cL_isTelling 168 = .ok (.invokestatic 147, 3) := by decide +kernel
theorem dL_isTelling_171 : decode cL_isTelling 171 = .ok (.iload 10, 2) := by decide +kernel
theorem dL_isTelling_173 : decode cL_isTelling 173 = .ok (.iload 9, 2) := by decide +kernel
theorem dL_isTelling_175 : decode cL_isTelling 175 = .ok (.ifCond .eq 8, 3) := by decide +kernel
theorem dL_isTelling_178 : decode cL_isTelling 178 = .ok (.ldc 23, 2) := by decide +kernel
theorem dL_isTelling_180 : decode cL_isTelling 180 = .ok (.goto 7, 3) := by decide +kernel
theorem dL_isTelling_183 : decode cL_isTelling 183 = .ok (.aload_n 1, 1) := by decide +kernel
theorem dL_isTelling_184 : decode cL_isTelling 184 = .ok (.iload 4, 2) := by decide +kernel
theorem dL_isTelling_186 : decode cL_isTelling 186 = .ok (.iaload, 1) := by decide +kernel
theorem dL_isTelling_187 : decode cL_isTelling 187 = .ok (.if_icmp .ne 7, 3) := by decide +kernel
theorem dL_isTelling_190 : decode cL_isTelling 190 = .ok (.iconst 1, 1) := by decide +kernel
theorem dL_isTelling_191 : decode cL_isTelling 191 = .ok (.goto 4, 3) := by decide +kernel
theorem dL_isTelling_194 : decode cL_isTelling 194 = .ok (.iconst 0, 1) := by decide +kernel
theorem dL_isTelling_195 : decode cL_isTelling 195 = .ok (.ireturn, 1) := by decide +kernel
theorem dL_isTelling_196 : decode cL_isTelling 196 = .ok (.aload_n 2, 1) := by decide +kernel
theorem dL_isTelling_197 : decode cL_isTelling 197 = .ok (.iload_n 3, 1) := by decide +kernel
theorem dL_isTelling_198 : decode cL_isTelling 198 = .ok (.iconst 1, 1) := by decide +kernel
theorem dL_isTelling_199 : decode cL_isTelling 199 = .ok (.iadd, 1) := by decide +kernel
theorem dL_isTelling_200 : decode cL_isTelling 200 = .ok (.aload_n 1, 1) := by decide +kernel
theorem dL_isTelling_201 : decode cL_isTelling 201 = .ok (.iconst 5, 1) := by decide +kernel
theorem dL_isTelling_202 : decode cL_isTelling 202 = .ok (.iaload, 1) := by decide +kernel
theorem dL_isTelling_203 : decode cL_isTelling 203 = .ok (.invokestatic 127, 3) := by decide +kernel
theorem dL_isTelling_206 : decode cL_isTelling 206 = .ok (.istore 10, 2) := by decide +kernel
theorem dL_isTelling_208 : decode cL_isTelling 208 = .ok (.aload_n 2, 1) := by decide +kernel
theorem dL_isTelling_209 : decode cL_isTelling 209 = .ok (.iload_n 3, 1) := by decide +kernel
theorem dL_isTelling_210 : decode cL_isTelling 210 = .ok (.iconst 2, 1) := by decide +kernel
theorem dL_isTelling_211 : decode cL_isTelling 211 = .ok (.iadd, 1) := by decide +kernel
theorem dL_isTelling_212 : decode cL_isTelling 212 = .ok (.iconst 4, 1) := by decide +kernel
theorem dL_isTelling_213 : decode cL_isTelling 213 = .ok (.invokestatic 127, 3) := by decide +kernel
theorem dL_isTelling_216 : decode cL_isTelling 216 = .ok (.ifCond .le 7, 3) := by decide +kernel
theorem dL_isTelling_219 : decode cL_isTelling 219 = .ok (.iconst 1, 1) := by decide +kernel
theorem dL_isTelling_220 : decode cL_isTelling 220 = .ok (.goto 4, 3) := by decide +kernel
theorem dL_isTelling_223 : decode cL_isTelling 223 = .ok (.iconst 0, 1) := by decide +kernel
theorem dL_isTelling_224 : decode cL_isTelling 224 = .ok (.istore 11, 2) := by decide +kernel
theorem dL_isTelling_226 : decode cL_isTelling 226 = .ok (.iload 11, 2) := by decide +kernel
theorem dL_isTelling_228 : decode cL_isTelling 228 = .ok (.ifCond .eq 14, 3) := by decide +kernel
theorem dL_isTelling_231 : decode cL_isTelling 231 = .ok (.aload_n 1, 1) := by decide +kernel
theorem dL_isTelling_232 : decode cL_isTelling 232 = .ok (.iload 4, 2) := by decide +kernel
theorem dL_isTelling_234 : decode cL_isTelling 234 = .ok (.iload 10, 2) := by decide +kernel
theorem dL_isTelling_236 : decode cL_isTelling 236 = .ok (.invokestatic 153, 3) := by decide +kernel
theorem dL_isTelling_239 : decode cL_isTelling 239 = .ok (.ifCond .eq 7, 3) := by decide +kernel
theorem dL_isTelling_242 : decode cL_isTelling 242 = .ok (.iconst 1, 1) := by decide +kernel
theorem dL_isTelling_243 : decode cL_isTelling 243 = .ok (.goto 4, 3) := by decide +kernel
theorem dL_isTelling_246 : decode cL_isTelling 246 = .ok (.iconst 0, 1) := by decide +kernel
theorem dL_isTelling_247 : decode cL_isTelling 247 = .ok (.istore 12, 2) := by decide +kernel
theorem dL_isTelling_249 : decode cL_isTelling 249 = .ok (.aload_n 0, 1) := by decide +kernel
theorem dL_isTelling_250 : decode cL_isTelling 250 = .ok (.iload 4, 2) := by decide +kernel
theorem dL_isTelling_252 : decode cL_isTelling 252 = .ok (.iload 10, 2) := by decide +kernel
theorem dL_isTelling_254 : decode cL_isTelling 254 = .ok (.iload 11, 2) := by decide +kernel
theorem dL_isTelling_256 : decode cL_isTelling 256 = .ok (.invokestatic 156, 3) := by decide +kernel
theorem dL_isTelling_259 : decode cL_isTelling 259 = .ok (.istore 13, 2) := by decide +kernel
theorem dL_isTelling_261 : decode cL_isTelling 261 = .ok (.iload 12, 2) := by decide +kernel
theorem dL_isTelling_263 : decode cL_isTelling 263 = .ok (.ifCond .eq 29, 3) := by decide +kernel
theorem dL_isTelling_266 : decode cL_isTelling 266 = .ok (.iload 9, 2) := by decide +kernel
theorem dL_isTelling_268 : decode cL_isTelling 268 = .ok (.ifCond .ne 24, 3) := by decide +kernel
theorem dL_isTelling_271 : decode cL_isTelling 271 = .ok (.aload_n 1, 1) := by decide +kernel
theorem dL_isTelling_272 : decode cL_isTelling 272 = .ok (.iload 4, 2) := by decide +kernel
theorem dL_isTelling_274 : decode cL_isTelling 274 = .ok (.iload 11, 2) := by decide +kernel
theorem dL_isTelling_276 : decode cL_isTelling 276 = .ok (.ifCond .eq 7, 3) := by decide +kernel
theorem dL_isTelling_279 : decode cL_isTelling 279 = .ok (.iconst 3, 1) := by decide +kernel
theorem dL_isTelling_280 : decode cL_isTelling 280 = .ok (.goto 4, 3) := by decide +kernel
theorem dL_isTelling_283 : decode cL_isTelling 283 = .ok (.iconst 2, 1) := by decide +kernel
theorem dL_isTelling_284 : decode cL_isTelling 284 = .ok (.iload 10, 2) := by decide +kernel
theorem dL_isTelling_286 : decode cL_isTelling 286 = .ok (.iconst 0, 1) := by decide +kernel
theorem dL_isTelling_287 : decode cL_isTelling 287 = .ok (.iconst 0, 1) := by decide +kernel
theorem dL_isTelling_288 : decode cL_isTelling 288 = .ok (.iconst 0, 1) := by decide +kernel
theorem dL_isTelling_289 : decode cL_isTelling 289 = .ok (.invokestatic 147, 3) := by decide +kernel
theorem dL_isTelling_292 : decode cL_isTelling 292 = .ok (.iload 13, 2) := by decide +kernel
theorem dL_isTelling_294 : decode cL_isTelling 294 = .ok (.iload 12, 2) := by decide +kernel
theorem dL_isTelling_296 : decode cL_isTelling 296 = .ok (.ifCond .ne 8, 3) := by decide +kernel
theorem dL_isTelling_299 : decode cL_isTelling 299 = .ok (.ldc 20, 2) := by decide +kernel
theorem dL_isTelling_301 : decode cL_isTelling 301 = .ok (.goto 17, 3) := by decide +kernel
theorem dL_isTelling_304 : decode cL_isTelling 304 = .ok (.iload 9, 2) := by decide +kernel
theorem dL_isTelling_306 : decode cL_isTelling 306 = .ok (.ifCond .eq 8, 3) := by decide +kernel
theorem dL_isTelling_309 : decode cL_isTelling 309 = .ok (.ldc 23, 2) := by decide +kernel
theorem dL_isTelling_311 : decode cL_isTelling 311 = .ok (.goto 7, 3) := by decide +kernel
theorem dL_isTelling_314 : decode cL_isTelling 314 = .ok (.aload_n 1, 1) := by decide +kernel
theorem dL_isTelling_315 : decode cL_isTelling 315 = .ok (.iload 4, 2) := by decide +kernel
theorem dL_isTelling_317 : decode cL_isTelling 317 = .ok (.iaload, 1) := by decide +kernel
theorem dL_isTelling_318 : decode cL_isTelling 318 = .ok (.if_icmp .ne 7, 3) := by decide +kernel
theorem dL_isTelling_321 : decode cL_isTelling 321 = .ok (.iconst 1, 1) := by decide +kernel
theorem dL_isTelling_322 : decode cL_isTelling 322 = .ok (.goto 4, 3) := by decide +kernel
theorem dL_isTelling_325 : decode cL_isTelling 325 = .ok (.iconst 0, 1) := by decide +kernel
theorem dL_isTelling_326 : decode cL_isTelling 326 = .ok (.ireturn, 1) := by decide +kernel
theorem dL_isBegun_0 : decode cL_isBegun 0 = .ok (.iconst 1, 1) := by decide +kernel
theorem dL_isBegun_1 : decode cL_isBegun 1 = .ok (.istore_n 3, 1) := by decide +kernel
theorem dL_isBegun_2 : decode cL_isBegun 2 = .ok (.iconst 1, 1) := by decide +kernel
theorem dL_isBegun_3 : decode cL_isBegun 3 = .ok (.aload_n 2, 1) := by decide +kernel
theorem dL_isBegun_4 : decode cL_isBegun 4 = .ok (.iconst 0, 1) := by decide +kernel
theorem dL_isBegun_5 : decode cL_isBegun 5 = .ok (.iconst 4, 1) := by decide +kernel
theorem dL_isBegun_6 : decode cL_isBegun 6 = .ok (.invokestatic 127, 3) := by decide +kernel
theorem dL_isBegun_9 : decode cL_isBegun 9 = .ok (.iadd, 1) := by decide +kernel
theorem dL_isBegun_10 : decode cL_isBegun 10 = .ok (.istore 4, 2) := by decide +kernel
theorem dL_isBegun_12 : decode cL_isBegun 12 = .ok (.iload 4, 2) := by decide +kernel
theorem dL_isBegun_14 : decode cL_isBegun 14 = .ok (.ifCond .le 25, 3) := by decide +kernel
theorem dL_isBegun_17 : decode cL_isBegun 17 = .ok (.iload_n 3, 1) := by decide +kernel
theorem dL_isBegun_18 : decode cL_isBegun 18 = .ok (.aload_n 0, 1) := by decide +kernel
theorem dL_isBegun_19 : decode cL_isBegun 19 = .ok (.aload_n 1, 1) := by decide +kernel
theorem dL_isBegun_20 : decode cL_isBegun 20 = .ok (.aload_n 2, 1) := by decide +kernel
theorem dL_isBegun_21 : decode cL_isBegun 21 = .ok (.iconst 2, 1) := by decide +kernel
theorem dL_isBegun_22 : decode cL_isBegun 22 = .ok (.bipush 18, 2) := by decide +kernel
theorem dL_isBegun_24 : decode cL_isBegun 24 = .ok (.iload 4, 2) := by decide +kernel
theorem dL_isBegun_26 : decode cL_isBegun 26 = .ok (.imul, 1) := by decide +kernel
theorem dL_isBegun_27 : decode cL_isBegun 27 = .ok (.iadd, 1) := by decide +kernel
theorem dL_isBegun_28 : decode cL_isBegun 28 = .ok (.invokestatic 159, 3) := by decide +kernel
theorem dL_isBegun_31 : decode cL_isBegun 31 = .ok (.iand, 1) := by decide +kernel
theorem dL_isBegun_32 : decode cL_isBegun 32 = .ok (.istore_n 3, 1) := by decide +kernel
theorem dL_isBegun_33 : decode cL_isBegun 33 = .ok (.iinc 4 (-1), 3) := by decide +kernel
theorem dL_isBegun_36 : decode cL_isBegun 36 = .ok (.goto (-24), 3) := by decide +kernel
theorem dL_isBegun_39 : decode cL_isBegun 39 = .ok (.iload_n 3, 1) := by decide +kernel
theorem dL_isBegun_40 : decode cL_isBegun 40 = .ok (.ireturn, 1) := by decide +kernel
theorem dL_areRanks_0 : decode cL_areRanks 0 = .ok (.aload_n 1, 1) := by decide +kernel
theorem dL_areRanks_1 : decode cL_areRanks 1 = .ok (.iload_n 2, 1) := by decide +kernel
theorem dL_areRanks_2 : decode cL_areRanks 2 = .ok (.iload_n 3, 1) := by decide +kernel
theorem dL_areRanks_3 : decode cL_areRanks 3 = .ok (.iload 4, 2) := by decide +kernel
theorem dL_areRanks_5 : decode cL_areRanks 5 = .ok (.invokestatic 163, 3) := by decide +kernel
theorem dL_areRanks_8 : decode cL_areRanks 8 = .ok (.astore 7, 2) := by decide +kernel
theorem dL_areRanks_10 : decode cL_areRanks 10 = .ok (.bipush 6, 2) := by decide +kernel
theorem dL_areRanks_12 : decode cL_areRanks 12 = .ok (.newarray .int, 2) := by decide +kernel
theorem dL_areRanks_14 : decode cL_areRanks 14 = .ok (.astore 8, 2) := by decide +kernel
theorem dL_areRanks_16 : decode cL_areRanks 16 = .ok (.iconst 0, 1) := by decide +kernel
theorem dL_areRanks_17 : decode cL_areRanks 17 = .ok (.istore 9, 2) := by decide +kernel
theorem dL_areRanks_19 : decode cL_areRanks 19 = .ok (.iload 9, 2) := by decide +kernel
theorem dL_areRanks_21 : decode cL_areRanks 21 = .ok (.sipush 384, 3) := by decide +kernel
theorem dL_areRanks_24 : decode cL_areRanks 24 = .ok (.if_icmp .ge 36, 3) := by decide +kernel
theorem dL_areRanks_27 : decode cL_areRanks 27 = .ok (.aload 8, 2) := by decide +kernel
theorem dL_areRanks_29 : decode cL_areRanks 29 = .ok (.iload 9, 2) := by decide +kernel
theorem dL_areRanks_31 : decode cL_areRanks 31 = .ok (.bipush 64, 2) := by decide +kernel
theorem dL_areRanks_33 : decode cL_areRanks 33 = .ok (.idiv, 1) := by decide +kernel
theorem dL_areRanks_34 : decode cL_areRanks 34 = .ok (.dup2, 1) := by decide +kernel
theorem dL_areRanks_35 : decode cL_areRanks 35 = .ok (.iaload, 1) := by decide +kernel
theorem dL_areRanks_36 : decode cL_areRanks 36 = .ok (.aload 7, 2) := by decide +kernel
theorem dL_areRanks_38 : decode cL_areRanks 38 = .ok (.iload 9, 2) := by decide +kernel
theorem dL_areRanks_40 : decode cL_areRanks 40 = .ok (.iaload, 1) := by decide +kernel
theorem dL_areRanks_41 : decode cL_areRanks 41 = .ok (.sipush 999, 3) := by decide +kernel
theorem dL_areRanks_44 : decode cL_areRanks 44 = .ok (.if_icmp .ge 7, 3) := by decide +kernel
theorem dL_areRanks_47 : decode cL_areRanks 47 = .ok (.iconst 1, 1) := by decide +kernel
theorem dL_areRanks_48 : decode cL_areRanks 48 = .ok (.goto 4, 3) := by decide +kernel
theorem dL_areRanks_51 : decode cL_areRanks 51 = .ok (.iconst 0, 1) := by decide +kernel
theorem dL_areRanks_52 : decode cL_areRanks 52 = .ok (.iadd, 1) := by decide +kernel
theorem dL_areRanks_53 : decode cL_areRanks 53 = .ok (.iastore, 1) := by decide +kernel
theorem dL_areRanks_54 : decode cL_areRanks 54 = .ok (.iinc 9 1, 3) := by decide +kernel
theorem dL_areRanks_57 : decode cL_areRanks 57 = .ok (.goto (-38), 3) := by decide +kernel
theorem dL_areRanks_60 : decode cL_areRanks 60 = .ok (.iconst 0, 1) := by decide +kernel
theorem dL_areRanks_61 : decode cL_areRanks 61 = .ok (.istore 9, 2) := by decide +kernel
theorem dL_areRanks_63 : decode cL_areRanks 63 = .ok (.iload 9, 2) := by decide +kernel
theorem dL_areRanks_65 : decode cL_areRanks 65 = .ok (.bipush 6, 2) := by decide +kernel
theorem dL_areRanks_67 : decode cL_areRanks 67 = .ok (.if_icmp .ge 29, 3) := by decide +kernel
theorem dL_areRanks_70 : decode cL_areRanks 70 = .ok (.aload_n 0, 1) := by decide +kernel
theorem dL_areRanks_71 : decode cL_areRanks 71 = .ok (.iload_n 2, 1) := by decide +kernel
theorem dL_areRanks_72 : decode cL_areRanks 72 = .ok (.iload_n 3, 1) := by decide +kernel
theorem dL_areRanks_73 : decode cL_areRanks 73 = .ok (.iload 4, 2) := by decide +kernel
theorem dL_areRanks_75 : decode cL_areRanks 75 = .ok (.iload 9, 2) := by decide +kernel
theorem dL_areRanks_77 : decode cL_areRanks 77 = .ok (.invokestatic 167, 3) := by decide +kernel
theorem dL_areRanks_80 : decode cL_areRanks 80 = .ok (.aload 8, 2) := by decide +kernel
theorem dL_areRanks_82 : decode cL_areRanks 82 = .ok (.iload 9, 2) := by decide +kernel
theorem dL_areRanks_84 : decode cL_areRanks 84 = .ok (.iaload, 1) := by decide +kernel
theorem dL_areRanks_85 : decode cL_areRanks 85 = .ok (.if_icmp .eq 5, 3) := by decide +kernel
theorem dL_areRanks_88 : decode cL_areRanks 88 = .ok (.iconst 0, 1) := by decide +kernel
theorem dL_areRanks_89 : decode cL_areRanks 89 = .ok (.ireturn, 1) := by decide +kernel
theorem dL_areRanks_90 : decode cL_areRanks 90 = .ok (.iinc 9 1, 3) := by decide +kernel
theorem dL_areRanks_93 : decode cL_areRanks 93 = .ok (.goto (-30), 3) := by decide +kernel
theorem dL_areRanks_96 : decode cL_areRanks 96 = .ok (.iconst 0, 1) := by decide +kernel
theorem dL_areRanks_97 : decode cL_areRanks 97 = .ok (.istore 9, 2) := by decide +kernel
theorem dL_areRanks_99 : decode cL_areRanks 99 = .ok (.iload 9, 2) := by decide +kernel
theorem dL_areRanks_101 : decode cL_areRanks 101 = .ok (.bipush 6, 2) := by decide +kernel
theorem dL_areRanks_103 : decode cL_areRanks 103 = .ok (.if_icmp .ge 157, 3) := by decide +kernel
theorem dL_areRanks_106 : decode cL_areRanks 106 = .ok (.iload 9, 2) := by decide +kernel
theorem dL_areRanks_108 : decode cL_areRanks 108 = .ok (.iconst 3, 1) := by decide +kernel
theorem dL_areRanks_109 : decode cL_areRanks 109 = .ok (.if_icmp .ge 18, 3) := by decide +kernel
theorem dL_areRanks_112 : decode cL_areRanks 112 = .ok (.aload 5, 2) := by decide +kernel
theorem dL_areRanks_114 : decode cL_areRanks 114 = .ok (.iload 6, 2) := by decide +kernel
theorem dL_areRanks_116 : decode cL_areRanks 116 = .ok (.iconst 3, 1) := by decide +kernel
theorem dL_areRanks_117 : decode cL_areRanks 117 = .ok (.iload 9, 2) := by decide +kernel
theorem dL_areRanks_119 : decode cL_areRanks 119 = .ok (.imul, 1) := by decide +kernel
theorem dL_areRanks_120 : decode cL_areRanks 120 = .ok (.iadd, 1) := by decide +kernel
theorem dL_areRanks_121 : decode cL_areRanks 121 = .ok (.invokestatic 141, 3) := by decide +kernel
theorem dL_areRanks_124 : decode cL_areRanks 124 = .ok (.goto 49, 3) := by decide +kernel
theorem dL_areRanks_127 : decode cL_areRanks 127 = .ok (.bipush 64, 2) := by decide +kernel
theorem dL_areRanks_129 : decode cL_areRanks 129 = .ok (.aload 5, 2) := by decide +kernel
theorem dL_areRanks_131 : decode cL_areRanks 131 = .ok (.iload 6, 2) := by decide +kernel
theorem dL_areRanks_133 : decode cL_areRanks 133 = .ok (.iload 9, 2) := by decide +kernel
theorem dL_areRanks_135 : decode cL_areRanks 135 = .ok (.iadd, 1) := by decide +kernel
theorem dL_areRanks_136 : decode cL_areRanks 136 = .ok (.bipush 6, 2) := by decide +kernel
theorem dL_areRanks_138 : decode cL_areRanks 138 = .ok (.invokestatic 127, 3) := by decide +kernel
theorem dL_areRanks_141 : decode cL_areRanks 141 = .ok (.imul, 1) := by decide +kernel
theorem dL_areRanks_142 : decode cL_areRanks 142 = .ok (.bipush 8, 2) := by decide +kernel
theorem dL_areRanks_144 : decode cL_areRanks 144 = .ok (.aload 5, 2) := by decide +kernel
theorem dL_areRanks_146 : decode cL_areRanks 146 = .ok (.iload 6, 2) := by decide +kernel
theorem dL_areRanks_148 : decode cL_areRanks 148 = .ok (.iload 9, 2) := by decide +kernel
theorem dL_areRanks_150 : decode cL_areRanks 150 = .ok (.iadd, 1) := by decide +kernel
theorem dL_areRanks_151 : decode cL_areRanks 151 = .ok (.iconst 1, 1) := by decide +kernel
theorem dL_areRanks_152 : decode cL_areRanks 152 = .ok (.iadd, 1) := by decide +kernel
theorem dL_areRanks_153 : decode cL_areRanks 153 = .ok (.iconst 4, 1) := by decide +kernel
theorem dL_areRanks_154 : decode cL_areRanks 154 = .ok (.invokestatic 127, 3) := by decide +kernel
theorem dL_areRanks_157 : decode cL_areRanks 157 = .ok (.imul, 1) := by decide +kernel
theorem dL_areRanks_158 : decode cL_areRanks 158 = .ok (.iadd, 1) := by decide +kernel
theorem dL_areRanks_159 : decode cL_areRanks 159 = .ok (.aload 5, 2) := by decide +kernel
theorem dL_areRanks_161 : decode cL_areRanks 161 = .ok (.iload 6, 2) := by decide +kernel
theorem dL_areRanks_163 : decode cL_areRanks 163 = .ok (.iload 9, 2) := by decide +kernel
theorem dL_areRanks_165 : decode cL_areRanks 165 = .ok (.iadd, 1) := by decide +kernel
theorem dL_areRanks_166 : decode cL_areRanks 166 = .ok (.iconst 2, 1) := by decide +kernel
theorem dL_areRanks_167 : decode cL_areRanks 167 = .ok (.iadd, 1) := by decide +kernel
theorem dL_areRanks_168 : decode cL_areRanks 168 = .ok (.iconst 4, 1) := by decide +kernel
theorem dL_areRanks_169 : decode cL_areRanks 169 = .ok (.invokestatic 127, 3) := by decide +kernel
theorem dL_areRanks_172 : decode cL_areRanks 172 = .ok (.iadd, 1) := by decide +kernel
theorem dL_areRanks_173 : decode cL_areRanks 173 = .ok (.istore 10, 2) := by decide +kernel
theorem dL_areRanks_175 : decode cL_areRanks 175 = .ok (.aload 7, 2) := by decide +kernel
theorem dL_areRanks_177 : decode cL_areRanks 177 = .ok (.iload 10, 2) := by decide +kernel
theorem dL_areRanks_179 : decode cL_areRanks 179 = .ok (.iaload, 1) := by decide +kernel
theorem dL_areRanks_180 : decode cL_areRanks 180 = .ok (.sipush 999, 3) := by decide +kernel
theorem dL_areRanks_183 : decode cL_areRanks 183 = .ok (.if_icmp .ge 7, 3) := by decide +kernel
theorem dL_areRanks_186 : decode cL_areRanks 186 = .ok (.iconst 1, 1) := by decide +kernel
theorem dL_areRanks_187 : decode cL_areRanks 187 = .ok (.goto 4, 3) := by decide +kernel
theorem dL_areRanks_190 : decode cL_areRanks 190 = .ok (.iconst 0, 1) := by decide +kernel
theorem dL_areRanks_191 : decode cL_areRanks 191 = .ok (.istore 11, 2) := by decide +kernel
theorem dL_areRanks_193 : decode cL_areRanks 193 = .ok (.aload_n 0, 1) := by decide +kernel
theorem dL_areRanks_194 : decode cL_areRanks 194 = .ok (.iload_n 2, 1) := by decide +kernel
theorem dL_areRanks_195 : decode cL_areRanks 195 = .ok (.iload_n 3, 1) := by decide +kernel
theorem dL_areRanks_196 : decode cL_areRanks 196 = .ok (.iload 4, 2) := by decide +kernel
theorem dL_areRanks_198 : decode cL_areRanks 198 = .ok (.iload 10, 2) := by decide +kernel
theorem dL_areRanks_200 : decode cL_areRanks 200 = .ok (.invokestatic 169, 3) := by decide +kernel
theorem dL_areRanks_203 : decode cL_areRanks 203 = .ok (.iload 11, 2) := by decide +kernel
theorem dL_areRanks_205 : decode cL_areRanks 205 = .ok (.if_icmp .ne 47, 3) := by decide +kernel
theorem dL_areRanks_208 : decode cL_areRanks 208 = .ok (.aload_n 0, 1) := by decide +kernel
theorem dL_areRanks_209 : decode cL_areRanks 209 = .ok (.iload_n 2, 1) := by decide +kernel
theorem dL_areRanks_210 : decode cL_areRanks 210 = .ok (.iload_n 3, 1) := by decide +kernel
theorem dL_areRanks_211 : decode cL_areRanks 211 = .ok (.iload 4, 2) := by decide +kernel
theorem dL_areRanks_213 : decode cL_areRanks 213 = .ok (.iload 10, 2) := by decide +kernel
theorem dL_areRanks_215 : decode cL_areRanks 215 = .ok (.invokestatic 171, 3) := by decide +kernel
theorem dL_areRanks_218 : decode cL_areRanks 218 = .ok (.iload 11, 2) := by decide +kernel
theorem dL_areRanks_220 : decode cL_areRanks 220 = .ok (.if_icmp .ne 32, 3) := by decide +kernel
theorem dL_areRanks_223 : decode cL_areRanks 223 = .ok (.aload_n 0, 1) := by decide +kernel
theorem dL_areRanks_224 : decode cL_areRanks 224 = .ok (.iload_n 2, 1) := by decide +kernel
theorem dL_areRanks_225 : decode cL_areRanks 225 = .ok (.iload_n 3, 1) := by decide +kernel
theorem dL_areRanks_226 : decode cL_areRanks 226 = .ok (.iload 4, 2) := by decide +kernel
theorem dL_areRanks_228 : decode cL_areRanks 228 = .ok (.iload 10, 2) := by decide +kernel
theorem dL_areRanks_230 : decode cL_areRanks 230 = .ok (.invokestatic 173, 3) := by decide +kernel
theorem dL_areRanks_233 : decode cL_areRanks 233 = .ok (.iload 11, 2) := by decide +kernel
theorem dL_areRanks_235 : decode cL_areRanks 235 = .ok (.iconst 1, 1) := by decide +kernel
theorem dL_areRanks_236 : decode cL_areRanks 236 = .ok (.if_icmp .ne 11, 3) := by decide +kernel
theorem dL_areRanks_239 : decode cL_areRanks 239 = .ok (.aload 7, 2) := by decide +kernel
theorem dL_areRanks_241 : decode cL_areRanks 241 = .ok (.iload 10, 2) := by decide +kernel
theorem dL_areRanks_243 : decode cL_areRanks 243 = .ok (.iaload, 1) := by decide +kernel
theorem dL_areRanks_244 : decode cL_areRanks 244 = .ok (.goto 5, 3) := by decide +kernel
theorem dL_areRanks_247 : decode cL_areRanks 247 = .ok (.ldc 23, 2) := by decide +kernel
theorem dL_areRanks_249 : decode cL_areRanks 249 = .ok (.if_icmp .eq 5, 3) := by decide +kernel
theorem dL_areRanks_252 : decode cL_areRanks 252 = .ok (.iconst 0, 1) := by decide +kernel
theorem dL_areRanks_253 : decode cL_areRanks 253 = .ok (.ireturn, 1) := by decide +kernel
theorem dL_areRanks_254 : decode cL_areRanks 254 = .ok (.iinc 9 1, 3) := by decide +kernel
theorem dL_areRanks_257 : decode cL_areRanks 257 = .ok (.goto (-158), 3) := by decide +kernel
theorem dL_areRanks_260 : decode cL_areRanks 260 = .ok (.iconst 1, 1) := by decide +kernel
theorem dL_areRanks_261 : decode cL_areRanks 261 = .ok (.ireturn, 1) := by decide +kernel
theorem dL_areFigures_0 : decode cL_areFigures 0 = .ok (.aload_n 1, 1) := by decide +kernel
theorem dL_areFigures_1 : decode cL_areFigures 1 = .ok (.iconst 0, 1) := by decide +kernel
theorem dL_areFigures_2 : decode cL_areFigures 2 = .ok (.aload_n 1, 1) := by decide +kernel
theorem dL_areFigures_3 : decode cL_areFigures 3 = .ok (.iconst 0, 1) := by decide +kernel
theorem dL_areFigures_4 : decode cL_areFigures 4 = .ok (.iaload, 1) := by decide +kernel
theorem dL_areFigures_5 : decode cL_areFigures 5 = .ok (.iload_n 2, 1) := by decide +kernel
theorem dL_areFigures_6 : decode cL_areFigures 6 = .ok (.invokestatic 163, 3) := by decide +kernel
theorem dL_areFigures_9 : decode cL_areFigures 9 = .ok (.astore_n 3, 1) := by decide +kernel
theorem dL_areFigures_10 : decode cL_areFigures 10 = .ok (.iconst 0, 1) := by decide +kernel
theorem dL_areFigures_11 : decode cL_areFigures 11 = .ok (.istore 4, 2) := by decide +kernel
theorem dL_areFigures_13 : decode cL_areFigures 13 = .ok (.iconst 0, 1) := by decide +kernel
theorem dL_areFigures_14 : decode cL_areFigures 14 = .ok (.istore 5, 2) := by decide +kernel
theorem dL_areFigures_16 : decode cL_areFigures 16 = .ok (.iconst 0, 1) := by decide +kernel
theorem dL_areFigures_17 : decode cL_areFigures 17 = .ok (.istore 6, 2) := by decide +kernel
theorem dL_areFigures_19 : decode cL_areFigures 19 = .ok (.aload_n 3, 1) := by decide +kernel
theorem dL_areFigures_20 : decode cL_areFigures 20 = .ok (.astore 7, 2) := by decide +kernel
theorem dL_areFigures_22 : decode cL_areFigures 22 = .ok (.aload 7, 2) := by decide +kernel
theorem dL_areFigures_24 : decode cL_areFigures 24 = .ok (.arraylength, 1) := by decide +kernel
theorem dL_areFigures_25 : decode cL_areFigures 25 = .ok (.istore 8, 2) := by decide +kernel
theorem dL_areFigures_27 : decode cL_areFigures 27 = .ok (.iconst 0, 1) := by decide +kernel
theorem dL_areFigures_28 : decode cL_areFigures 28 = .ok (.istore 9, 2) := by decide +kernel
theorem dL_areFigures_30 : decode cL_areFigures 30 = .ok (.iload 9, 2) := by decide +kernel
theorem dL_areFigures_32 : decode cL_areFigures 32 = .ok (.iload 8, 2) := by decide +kernel
theorem dL_areFigures_34 : decode cL_areFigures 34 = .ok (.if_icmp .ge 76, 3) := by decide +kernel
theorem dL_areFigures_37 : decode cL_areFigures 37 = .ok (.aload 7, 2) := by decide +kernel
theorem dL_areFigures_39 : decode cL_areFigures 39 = .ok (.iload 9, 2) := by decide +kernel
theorem dL_areFigures_41 : decode cL_areFigures 41 = .ok (.iaload, 1) := by decide +kernel
theorem dL_areFigures_42 : decode cL_areFigures 42 = .ok (.istore 10, 2) := by decide +kernel
theorem dL_areFigures_44 : decode cL_areFigures 44 = .ok (.iload 4, 2) := by decide +kernel
theorem dL_areFigures_46 : decode cL_areFigures 46 = .ok (.iload 10, 2) := by decide +kernel
theorem dL_areFigures_48 : decode cL_areFigures 48 = .ok (.sipush 999, 3) := by decide +kernel
theorem dL_areFigures_51 : decode cL_areFigures 51 = .ok (.if_icmp .ge 7, 3) := by decide +kernel
theorem dL_areFigures_54 : decode cL_areFigures 54 = .ok (.iconst 1, 1) := by decide +kernel
theorem dL_areFigures_55 : decode cL_areFigures 55 = .ok (.goto 4, 3) := by decide +kernel
theorem dL_areFigures_58 : decode cL_areFigures 58 = .ok (.iconst 0, 1) := by decide +kernel
theorem dL_areFigures_59 : decode cL_areFigures 59 = .ok (.iadd, 1) := by decide +kernel
theorem dL_areFigures_60 : decode cL_areFigures 60 = .ok (.istore 4, 2) := by decide +kernel
theorem dL_areFigures_62 : decode cL_areFigures 62 = .ok (.iload 5, 2) := by decide +kernel
theorem dL_areFigures_64 : decode cL_areFigures 64 = .ok (.iload 10, 2) := by decide +kernel
theorem dL_areFigures_66 : decode cL_areFigures 66 = .ok (.ifCond .le 15, 3) := by decide +kernel
theorem dL_areFigures_69 : decode cL_areFigures 69 = .ok (.iload 10, 2) := by decide +kernel
theorem dL_areFigures_71 : decode cL_areFigures 71 = .ok (.sipush 999, 3) := by decide +kernel
theorem dL_areFigures_74 : decode cL_areFigures 74 = .ok (.if_icmp .ge 7, 3) := by decide +kernel
theorem dL_areFigures_77 : decode cL_areFigures 77 = .ok (.iconst 1, 1) := by decide +kernel
theorem dL_areFigures_78 : decode cL_areFigures 78 = .ok (.goto 4, 3) := by decide +kernel
theorem dL_areFigures_81 : decode cL_areFigures 81 = .ok (.iconst 0, 1) := by decide +kernel
theorem dL_areFigures_82 : decode cL_areFigures 82 = .ok (.iadd, 1) := by decide +kernel
theorem dL_areFigures_83 : decode cL_areFigures 83 = .ok (.istore 5, 2) := by decide +kernel
theorem dL_areFigures_85 : decode cL_areFigures 85 = .ok (.iload 6, 2) := by decide +kernel
theorem dL_areFigures_87 : decode cL_areFigures 87 = .ok (.iload 10, 2) := by decide +kernel
theorem dL_areFigures_89 : decode cL_areFigures 89 = .ok (.sipush 999, 3) := by decide +kernel
theorem dL_areFigures_92 : decode cL_areFigures 92 = .ok (.if_icmp .ge 8, 3) := by decide +kernel
theorem dL_areFigures_95 : decode cL_areFigures 95 = .ok (.iload 10, 2) := by decide +kernel
theorem dL_areFigures_97 : decode cL_areFigures 97 = .ok (.goto 4, 3) := by decide +kernel
theorem dL_areFigures_100 : decode cL_areFigures 100 = .ok (.iconst 0, 1) := by decide +kernel
theorem dL_areFigures_101 : decode cL_areFigures 101 = .ok (.iadd, 1) := by decide +kernel
theorem dL_areFigures_102 : decode cL_areFigures 102 = .ok (.istore 6, 2) := by decide +kernel
theorem dL_areFigures_104 : decode cL_areFigures 104 = .ok (.iinc 9 1, 3) := by decide +kernel
theorem dL_areFigures_107 : decode cL_areFigures 107 = .ok (.goto (-77), 3) := by decide +kernel
theorem dL_areFigures_110 : decode cL_areFigures 110 = .ok (.aload_n 0, 1) := by decide +kernel
theorem dL_areFigures_111 : decode cL_areFigures 111 = .ok (.iconst 0, 1) := by decide +kernel
theorem dL_areFigures_112 : decode cL_areFigures 112 = .ok (.iload_n 2, 1) := by decide +kernel
theorem dL_areFigures_113 : decode cL_areFigures 113 = .ok (.invokestatic 175, 3) := by decide +kernel
theorem dL_areFigures_116 : decode cL_areFigures 116 = .ok (.iload 4, 2) := by decide +kernel
theorem dL_areFigures_118 : decode cL_areFigures 118 = .ok (.ifCond .ne 8, 3) := by decide +kernel
theorem dL_areFigures_121 : decode cL_areFigures 121 = .ok (.ldc 66, 2) := by decide +kernel
theorem dL_areFigures_123 : decode cL_areFigures 123 = .ok (.goto 10, 3) := by decide +kernel
theorem dL_areFigures_126 : decode cL_areFigures 126 = .ok (.iload 5, 2) := by decide +kernel
theorem dL_areFigures_128 : decode cL_areFigures 128 = .ok (.i2f, 1) := by decide +kernel
theorem dL_areFigures_129 : decode cL_areFigures 129 = .ok (.iload 4, 2) := by decide +kernel
theorem dL_areFigures_131 : decode cL_areFigures 131 = .ok (.i2f, 1) := by decide +kernel
theorem dL_areFigures_132 : decode cL_areFigures 132 = .ok (.fdiv, 1) := by decide +kernel
theorem dL_areFigures_133 : decode cL_areFigures 133 = .ok (.fcmp .l, 1) := by decide +kernel
theorem dL_areFigures_134 : decode cL_areFigures 134 = .ok (.ifCond .ne 7, 3) := by decide +kernel
theorem dL_areFigures_137 : decode cL_areFigures 137 = .ok (.iconst 1, 1) := by decide +kernel
theorem dL_areFigures_138 : decode cL_areFigures 138 = .ok (.goto 4, 3) := by decide +kernel
theorem dL_areFigures_141 : decode cL_areFigures 141 = .ok (.iconst 0, 1) := by decide +kernel
theorem dL_areFigures_142 : decode cL_areFigures 142 = .ok (.istore 7, 2) := by decide +kernel
theorem dL_areFigures_144 : decode cL_areFigures 144 = .ok (.iload 7, 2) := by decide +kernel
theorem dL_areFigures_146 : decode cL_areFigures 146 = .ok (.ifCond .eq 35, 3) := by decide +kernel
theorem dL_areFigures_149 : decode cL_areFigures 149 = .ok (.aload_n 0, 1) := by decide +kernel
theorem dL_areFigures_150 : decode cL_areFigures 150 = .ok (.iconst 0, 1) := by decide +kernel
theorem dL_areFigures_151 : decode cL_areFigures 151 = .ok (.iload_n 2, 1) := by decide +kernel
theorem dL_areFigures_152 : decode cL_areFigures 152 = .ok (.invokestatic 178, 3) := by decide +kernel
theorem dL_areFigures_155 : decode cL_areFigures 155 = .ok (.iload 4, 2) := by decide +kernel
theorem dL_areFigures_157 : decode cL_areFigures 157 = .ok (.ifCond .ne 9, 3) := by decide +kernel
theorem dL_areFigures_160 : decode cL_areFigures 160 = .ok (.ldc2_w 75, 3) := by decide +kernel
theorem dL_areFigures_163 : decode cL_areFigures 163 = .ok (.goto 10, 3) := by decide +kernel
theorem dL_areFigures_166 : decode cL_areFigures 166 = .ok (.iload 6, 2) := by decide +kernel
theorem dL_areFigures_168 : decode cL_areFigures 168 = .ok (.i2d, 1) := by decide +kernel
theorem dL_areFigures_169 : decode cL_areFigures 169 = .ok (.iload 4, 2) := by decide +kernel
theorem dL_areFigures_171 : decode cL_areFigures 171 = .ok (.i2d, 1) := by decide +kernel
theorem dL_areFigures_172 : decode cL_areFigures 172 = .ok (.ddiv, 1) := by decide +kernel
theorem dL_areFigures_173 : decode cL_areFigures 173 = .ok (.dcmp .l, 1) := by decide +kernel
theorem dL_areFigures_174 : decode cL_areFigures 174 = .ok (.ifCond .ne 7, 3) := by decide +kernel
theorem dL_areFigures_177 : decode cL_areFigures 177 = .ok (.iconst 1, 1) := by decide +kernel
theorem dL_areFigures_178 : decode cL_areFigures 178 = .ok (.goto 4, 3) := by decide +kernel
theorem dL_areFigures_181 : decode cL_areFigures 181 = .ok (.iconst 0, 1) := by decide +kernel
theorem dL_areFigures_182 : decode cL_areFigures 182 = .ok (.ireturn, 1) := by decide +kernel
theorem dL_law_0 : decode cL_law 0 = .ok (.new 10, 3) := by decide +kernel
theorem dL_law_3 : decode cL_law 3 = .ok (.dup, 1) := by decide +kernel
theorem dL_law_4 : decode cL_law 4 = .ok (.invokespecial 181, 3) := by decide +kernel
theorem dL_law_7 : decode cL_law 7 = .ok (.astore_n 1, 1) := by decide +kernel
theorem dL_law_8 : decode cL_law 8 = .ok (.sipush 1800, 3) := by decide +kernel
theorem dL_law_11 : decode cL_law 11 = .ok (.newarray .int, 2) := by decide +kernel
theorem dL_law_13 : decode cL_law 13 = .ok (.astore_n 2, 1) := by decide +kernel
theorem dL_law_14 : decode cL_law 14 = .ok (.aload_n 1, 1) := by decide +kernel
theorem dL_law_15 : decode cL_law 15 = .ok (.aload_n 2, 1) := by decide +kernel
theorem dL_law_16 : decode cL_law 16 = .ok (.aload_n 0, 1) := by decide +kernel
theorem dL_law_17 : decode cL_law 17 = .ok (.invokestatic 182, 3) := by decide +kernel
theorem dL_law_20 : decode cL_law 20 = .ok (.ifCond .ne 5, 3) := by decide +kernel
theorem dL_law_23 : decode cL_law 23 = .ok (.iconst 0, 1) := by decide +kernel
theorem dL_law_24 : decode cL_law 24 = .ok (.ireturn, 1) := by decide +kernel
theorem dL_law_25 : decode cL_law 25 = .ok (.iconst 0, 1) := by decide +kernel
theorem dL_law_26 : decode cL_law 26 = .ok (.istore_n 3, 1) := by decide +kernel
theorem dL_law_27 : decode cL_law 27 = .ok (.iload_n 3, 1) := by decide +kernel
theorem dL_law_28 : decode cL_law 28 = .ok (.bipush 22, 2) := by decide +kernel
theorem dL_law_30 : decode cL_law 30 = .ok (.if_icmp .ge 39, 3) := by decide +kernel
theorem dL_law_33 : decode cL_law 33 = .ok (.aload_n 1, 1) := by decide +kernel
theorem dL_law_34 : decode cL_law 34 = .ok (.aload_n 2, 1) := by decide +kernel
theorem dL_law_35 : decode cL_law 35 = .ok (.aload_n 0, 1) := by decide +kernel
theorem dL_law_36 : decode cL_law 36 = .ok (.bipush 90, 2) := by decide +kernel
theorem dL_law_38 : decode cL_law 38 = .ok (.bipush 6, 2) := by decide +kernel
theorem dL_law_40 : decode cL_law 40 = .ok (.iload_n 3, 1) := by decide +kernel
theorem dL_law_41 : decode cL_law 41 = .ok (.imul, 1) := by decide +kernel
theorem dL_law_42 : decode cL_law 42 = .ok (.iadd, 1) := by decide +kernel
theorem dL_law_43 : decode cL_law 43 = .ok (.iconst 0, 1) := by decide +kernel
theorem dL_law_44 : decode cL_law 44 = .ok (.invokestatic 186, 3) := by decide +kernel
theorem dL_law_47 : decode cL_law 47 = .ok (.ifCond .eq 14, 3) := by decide +kernel
theorem dL_law_50 : decode cL_law 50 = .ok (.aload_n 1, 1) := by decide +kernel
theorem dL_law_51 : decode cL_law 51 = .ok (.iconst 0, 1) := by decide +kernel
theorem dL_law_52 : decode cL_law 52 = .ok (.invokestatic 190, 3) := by decide +kernel
theorem dL_law_55 : decode cL_law 55 = .ok (.aload_n 2, 1) := by decide +kernel
theorem dL_law_56 : decode cL_law 56 = .ok (.iconst 0, 1) := by decide +kernel
theorem dL_law_57 : decode cL_law 57 = .ok (.iaload, 1) := by decide +kernel
theorem dL_law_58 : decode cL_law 58 = .ok (.if_icmp .eq 5, 3) := by decide +kernel
theorem dL_law_61 : decode cL_law 61 = .ok (.iconst 0, 1) := by decide +kernel
theorem dL_law_62 : decode cL_law 62 = .ok (.ireturn, 1) := by decide +kernel
theorem dL_law_63 : decode cL_law 63 = .ok (.iinc 3 1, 3) := by decide +kernel
theorem dL_law_66 : decode cL_law 66 = .ok (.goto (-39), 3) := by decide +kernel
theorem dL_law_69 : decode cL_law 69 = .ok (.aload_n 2, 1) := by decide +kernel
theorem dL_law_70 : decode cL_law 70 = .ok (.aload_n 2, 1) := by decide +kernel
theorem dL_law_71 : decode cL_law 71 = .ok (.iconst 0, 1) := by decide +kernel
theorem dL_law_72 : decode cL_law 72 = .ok (.aload_n 2, 1) := by decide +kernel
theorem dL_law_73 : decode cL_law 73 = .ok (.iconst 0, 1) := by decide +kernel
theorem dL_law_74 : decode cL_law 74 = .ok (.iaload, 1) := by decide +kernel
theorem dL_law_75 : decode cL_law 75 = .ok (.invokestatic 111, 3) := by decide +kernel
theorem dL_law_78 : decode cL_law 78 = .ok (.invokestatic 115, 3) := by decide +kernel
theorem dL_law_81 : decode cL_law 81 = .ok (.astore_n 3, 1) := by decide +kernel
theorem dL_law_82 : decode cL_law 82 = .ok (.iconst 0, 1) := by decide +kernel
theorem dL_law_83 : decode cL_law 83 = .ok (.istore 4, 2) := by decide +kernel
theorem dL_law_85 : decode cL_law 85 = .ok (.iload 4, 2) := by decide +kernel
theorem dL_law_87 : decode cL_law 87 = .ok (.bipush 6, 2) := by decide +kernel
theorem dL_law_89 : decode cL_law 89 = .ok (.if_icmp .ge 25, 3) := by decide +kernel
theorem dL_law_92 : decode cL_law 92 = .ok (.aload_n 1, 1) := by decide +kernel
theorem dL_law_93 : decode cL_law 93 = .ok (.iconst 0, 1) := by decide +kernel
theorem dL_law_94 : decode cL_law 94 = .ok (.iload 4, 2) := by decide +kernel
theorem dL_law_96 : decode cL_law 96 = .ok (.invokestatic 193, 3) := by decide +kernel
theorem dL_law_99 : decode cL_law 99 = .ok (.aload_n 3, 1) := by decide +kernel
theorem dL_law_100 : decode cL_law 100 = .ok (.iload 4, 2) := by decide +kernel
theorem dL_law_102 : decode cL_law 102 = .ok (.iaload, 1) := by decide +kernel
theorem dL_law_103 : decode cL_law 103 = .ok (.if_icmp .eq 5, 3) := by decide +kernel
theorem dL_law_106 : decode cL_law 106 = .ok (.iconst 0, 1) := by decide +kernel
theorem dL_law_107 : decode cL_law 107 = .ok (.ireturn, 1) := by decide +kernel
theorem dL_law_108 : decode cL_law 108 = .ok (.iinc 4 1, 3) := by decide +kernel
theorem dL_law_111 : decode cL_law 111 = .ok (.goto (-26), 3) := by decide +kernel
theorem dL_law_114 : decode cL_law 114 = .ok (.iconst 0, 1) := by decide +kernel
theorem dL_law_115 : decode cL_law 115 = .ok (.istore 4, 2) := by decide +kernel
theorem dL_law_117 : decode cL_law 117 = .ok (.iload 4, 2) := by decide +kernel
theorem dL_law_119 : decode cL_law 119 = .ok (.aload_n 2, 1) := by decide +kernel
theorem dL_law_120 : decode cL_law 120 = .ok (.iconst 5, 1) := by decide +kernel
theorem dL_law_121 : decode cL_law 121 = .ok (.iaload, 1) := by decide +kernel
theorem dL_law_122 : decode cL_law 122 = .ok (.if_icmp .ge 57, 3) := by decide +kernel
theorem dL_law_125 : decode cL_law 125 = .ok (.aload_n 0, 1) := by decide +kernel
theorem dL_law_126 : decode cL_law 126 = .ok (.sipush 230, 3) := by decide +kernel
theorem dL_law_129 : decode cL_law 129 = .ok (.iload 4, 2) := by decide +kernel
theorem dL_law_131 : decode cL_law 131 = .ok (.iadd, 1) := by decide +kernel
theorem dL_law_132 : decode cL_law 132 = .ok (.aload_n 2, 1) := by decide +kernel
theorem dL_law_133 : decode cL_law 133 = .ok (.iconst 0, 1) := by decide +kernel
theorem dL_law_134 : decode cL_law 134 = .ok (.iaload, 1) := by decide +kernel
theorem dL_law_135 : decode cL_law 135 = .ok (.iconst 1, 1) := by decide +kernel
theorem dL_law_136 : decode cL_law 136 = .ok (.iadd, 1) := by decide +kernel
theorem dL_law_137 : decode cL_law 137 = .ok (.invokestatic 127, 3) := by decide +kernel
theorem dL_law_140 : decode cL_law 140 = .ok (.istore 5, 2) := by decide +kernel
theorem dL_law_142 : decode cL_law 142 = .ok (.aload_n 1, 1) := by decide +kernel
theorem dL_law_143 : decode cL_law 143 = .ok (.iconst 0, 1) := by decide +kernel
theorem dL_law_144 : decode cL_law 144 = .ok (.iload 4, 2) := by decide +kernel
theorem dL_law_146 : decode cL_law 146 = .ok (.iload 5, 2) := by decide +kernel
theorem dL_law_148 : decode cL_law 148 = .ok (.invokestatic 196, 3) := by decide +kernel
theorem dL_law_151 : decode cL_law 151 = .ok (.aload_n 2, 1) := by decide +kernel
theorem dL_law_152 : decode cL_law 152 = .ok (.iconst 0, 1) := by decide +kernel
theorem dL_law_153 : decode cL_law 153 = .ok (.iload 5, 2) := by decide +kernel
theorem dL_law_155 : decode cL_law 155 = .ok (.iload 4, 2) := by decide +kernel
theorem dL_law_157 : decode cL_law 157 = .ok (.invokestatic 107, 3) := by decide +kernel
theorem dL_law_160 : decode cL_law 160 = .ok (.ifCond .eq 7, 3) := by decide +kernel
theorem dL_law_163 : decode cL_law 163 = .ok (.iconst 1, 1) := by decide +kernel
theorem dL_law_164 : decode cL_law 164 = .ok (.goto 4, 3) := by decide +kernel
theorem dL_law_167 : decode cL_law 167 = .ok (.iconst 0, 1) := by decide +kernel
theorem dL_law_168 : decode cL_law 168 = .ok (.if_icmp .eq 5, 3) := by decide +kernel
theorem dL_law_171 : decode cL_law 171 = .ok (.iconst 0, 1) := by decide +kernel
theorem dL_law_172 : decode cL_law 172 = .ok (.ireturn, 1) := by decide +kernel
theorem dL_law_173 : decode cL_law 173 = .ok (.iinc 4 1, 3) := by decide +kernel
theorem dL_law_176 : decode cL_law 176 = .ok (.goto (-59), 3) := by decide +kernel
theorem dL_law_179 : decode cL_law 179 = .ok (.iconst 0, 1) := by decide +kernel
theorem dL_law_180 : decode cL_law 180 = .ok (.istore 4, 2) := by decide +kernel
theorem dL_law_182 : decode cL_law 182 = .ok (.iload 4, 2) := by decide +kernel
theorem dL_law_184 : decode cL_law 184 = .ok (.iconst 4, 1) := by decide +kernel
theorem dL_law_185 : decode cL_law 185 = .ok (.if_icmp .ge 76, 3) := by decide +kernel
theorem dL_law_188 : decode cL_law 188 = .ok (.aload_n 0, 1) := by decide +kernel
theorem dL_law_189 : decode cL_law 189 = .ok (.sipush 240, 3) := by decide +kernel
theorem dL_law_192 : decode cL_law 192 = .ok (.iload 4, 2) := by decide +kernel
theorem dL_law_194 : decode cL_law 194 = .ok (.iadd, 1) := by decide +kernel
theorem dL_law_195 : decode cL_law 195 = .ok (.bipush 24, 2) := by decide +kernel
theorem dL_law_197 : decode cL_law 197 = .ok (.invokestatic 127, 3) := by decide +kernel
theorem dL_law_200 : decode cL_law 200 = .ok (.istore 5, 2) := by decide +kernel
theorem dL_law_202 : decode cL_law 202 = .ok (.iload 4, 2) := by decide +kernel
theorem dL_law_204 : decode cL_law 204 = .ok (.ifCond .ne 9, 3) := by decide +kernel
theorem dL_law_207 : decode cL_law 207 = .ok (.aload_n 2, 1) := by decide +kernel
theorem dL_law_208 : decode cL_law 208 = .ok (.iconst 0, 1) := by decide +kernel
theorem dL_law_209 : decode cL_law 209 = .ok (.iaload, 1) := by decide +kernel
theorem dL_law_210 : decode cL_law 210 = .ok (.goto 18, 3) := by decide +kernel
theorem dL_law_213 : decode cL_law 213 = .ok (.aload_n 0, 1) := by decide +kernel
theorem dL_law_214 : decode cL_law 214 = .ok (.sipush 250, 3) := by decide +kernel
theorem dL_law_217 : decode cL_law 217 = .ok (.iload 4, 2) := by decide +kernel
theorem dL_law_219 : decode cL_law 219 = .ok (.iadd, 1) := by decide +kernel
theorem dL_law_220 : decode cL_law 220 = .ok (.aload_n 2, 1) := by decide +kernel
theorem dL_law_221 : decode cL_law 221 = .ok (.iconst 0, 1) := by decide +kernel
theorem dL_law_222 : decode cL_law 222 = .ok (.iaload, 1) := by decide +kernel
theorem dL_law_223 : decode cL_law 223 = .ok (.iconst 1, 1) := by decide +kernel
theorem dL_law_224 : decode cL_law 224 = .ok (.iadd, 1) := by decide +kernel
theorem dL_law_225 : decode cL_law 225 = .ok (.invokestatic 127, 3) := by decide +kernel
theorem dL_law_228 : decode cL_law 228 = .ok (.istore 6, 2) := by decide +kernel
theorem dL_law_230 : decode cL_law 230 = .ok (.aload_n 1, 1) := by decide +kernel
theorem dL_law_231 : decode cL_law 231 = .ok (.aload_n 2, 1) := by decide +kernel
theorem dL_law_232 : decode cL_law 232 = .ok (.iconst 0, 1) := by decide +kernel
theorem dL_law_233 : decode cL_law 233 = .ok (.iload 6, 2) := by decide +kernel
theorem dL_law_235 : decode cL_law 235 = .ok (.iload 5, 2) := by decide +kernel
theorem dL_law_237 : decode cL_law 237 = .ok (.aload_n 0, 1) := by decide +kernel
theorem dL_law_238 : decode cL_law 238 = .ok (.sipush 260, 3) := by decide +kernel
theorem dL_law_241 : decode cL_law 241 = .ok (.bipush 12, 2) := by decide +kernel
theorem dL_law_243 : decode cL_law 243 = .ok (.iload 4, 2) := by decide +kernel
theorem dL_law_245 : decode cL_law 245 = .ok (.imul, 1) := by decide +kernel
theorem dL_law_246 : decode cL_law 246 = .ok (.iadd, 1) := by decide +kernel
theorem dL_law_247 : decode cL_law 247 = .ok (.invokestatic 199, 3) := by decide +kernel
theorem dL_law_250 : decode cL_law 250 = .ok (.ifCond .ne 5, 3) := by decide +kernel
theorem dL_law_253 : decode cL_law 253 = .ok (.iconst 0, 1) := by decide +kernel
theorem dL_law_254 : decode cL_law 254 = .ok (.ireturn, 1) := by decide +kernel
theorem dL_law_255 : decode cL_law 255 = .ok (.iinc 4 1, 3) := by decide +kernel
theorem dL_law_258 : decode cL_law 258 = .ok (.goto (-76), 3) := by decide +kernel
theorem dL_law_261 : decode cL_law 261 = .ok (.aload_n 1, 1) := by decide +kernel
theorem dL_law_262 : decode cL_law 262 = .ok (.aload_n 2, 1) := by decide +kernel
theorem dL_law_263 : decode cL_law 263 = .ok (.aload_n 0, 1) := by decide +kernel
theorem dL_law_264 : decode cL_law 264 = .ok (.iconst 5, 1) := by decide +kernel
theorem dL_law_265 : decode cL_law 265 = .ok (.bipush 24, 2) := by decide +kernel
theorem dL_law_267 : decode cL_law 267 = .ok (.invokestatic 127, 3) := by decide +kernel
theorem dL_law_270 : decode cL_law 270 = .ok (.invokestatic 203, 3) := by decide +kernel
theorem dL_law_273 : decode cL_law 273 = .ok (.ifCond .eq 113, 3) := by decide +kernel
theorem dL_law_276 : decode cL_law 276 = .ok (.aload_n 1, 1) := by decide +kernel
theorem dL_law_277 : decode cL_law 277 = .ok (.invokevirtual 207, 3) := by decide +kernel
theorem dL_law_280 : decode cL_law 280 = .ok (.ifCond .eq 106, 3) := by decide +kernel
theorem dL_law_283 : decode cL_law 283 = .ok (.aload_n 1, 1) := by decide +kernel
theorem dL_law_284 : decode cL_law 284 = .ok (.iconst 0, 1) := by decide +kernel
theorem dL_law_285 : decode cL_law 285 = .ok (.aload_n 2, 1) := by decide +kernel
theorem dL_law_286 : decode cL_law 286 = .ok (.iconst 0, 1) := by decide +kernel
theorem dL_law_287 : decode cL_law 287 = .ok (.iaload, 1) := by decide +kernel
theorem dL_law_288 : decode cL_law 288 = .ok (.iconst 1, 1) := by decide +kernel
theorem dL_law_289 : decode cL_law 289 = .ok (.iadd, 1) := by decide +kernel
theorem dL_law_290 : decode cL_law 290 = .ok (.iconst 0, 1) := by decide +kernel
theorem dL_law_291 : decode cL_law 291 = .ok (.iconst 0, 1) := by decide +kernel
theorem dL_law_292 : decode cL_law 292 = .ok (.invokestatic 169, 3) := by decide +kernel
theorem dL_law_295 : decode cL_law 295 = .ok (.ldc 17, 2) := by decide +kernel
theorem dL_law_297 : decode cL_law 297 = .ok (.if_icmp .ne 89, 3) := by decide +kernel
theorem dL_law_300 : decode cL_law 300 = .ok (.aload_n 1, 1) := by decide +kernel
theorem dL_law_301 : decode cL_law 301 = .ok (.iconst 1, 1) := by decide +kernel
theorem dL_law_302 : decode cL_law 302 = .ok (.iconst 0, 1) := by decide +kernel
theorem dL_law_303 : decode cL_law 303 = .ok (.iconst 0, 1) := by decide +kernel
theorem dL_law_304 : decode cL_law 304 = .ok (.iconst 0, 1) := by decide +kernel
theorem dL_law_305 : decode cL_law 305 = .ok (.invokestatic 169, 3) := by decide +kernel
theorem dL_law_308 : decode cL_law 308 = .ok (.ldc 17, 2) := by decide +kernel
theorem dL_law_310 : decode cL_law 310 = .ok (.if_icmp .ne 76, 3) := by decide +kernel
theorem dL_law_313 : decode cL_law 313 = .ok (.aload_n 1, 1) := by decide +kernel
theorem dL_law_314 : decode cL_law 314 = .ok (.iconst 0, 1) := by decide +kernel
theorem dL_law_315 : decode cL_law 315 = .ok (.iconst 0, 1) := by decide +kernel
theorem dL_law_316 : decode cL_law 316 = .ok (.bipush 24, 2) := by decide +kernel
theorem dL_law_318 : decode cL_law 318 = .ok (.iconst 0, 1) := by decide +kernel
theorem dL_law_319 : decode cL_law 319 = .ok (.invokestatic 169, 3) := by decide +kernel
theorem dL_law_322 : decode cL_law 322 = .ok (.ldc 20, 2) := by decide +kernel
theorem dL_law_324 : decode cL_law 324 = .ok (.if_icmp .ne 62, 3) := by decide +kernel
theorem dL_law_327 : decode cL_law 327 = .ok (.aload_n 1, 1) := by decide +kernel
theorem dL_law_328 : decode cL_law 328 = .ok (.iconst 0, 1) := by decide +kernel
theorem dL_law_329 : decode cL_law 329 = .ok (.iconst 0, 1) := by decide +kernel
theorem dL_law_330 : decode cL_law 330 = .ok (.iconst 0, 1) := by decide +kernel
theorem dL_law_331 : decode cL_law 331 = .ok (.sipush 384, 3) := by decide +kernel
theorem dL_law_334 : decode cL_law 334 = .ok (.invokestatic 169, 3) := by decide +kernel
theorem dL_law_337 : decode cL_law 337 = .ok (.ldc 20, 2) := by decide +kernel
theorem dL_law_339 : decode cL_law 339 = .ok (.if_icmp .ne 47, 3) := by decide +kernel
theorem dL_law_342 : decode cL_law 342 = .ok (.aload_n 1, 1) := by decide +kernel
theorem dL_law_343 : decode cL_law 343 = .ok (.iconst 0, 1) := by decide +kernel
theorem dL_law_344 : decode cL_law 344 = .ok (.iconst (-1), 1) := by decide +kernel
theorem dL_law_345 : decode cL_law 345 = .ok (.iconst 0, 1) := by decide +kernel
theorem dL_law_346 : decode cL_law 346 = .ok (.iconst 0, 1) := by decide +kernel
theorem dL_law_347 : decode cL_law 347 = .ok (.invokestatic 167, 3) := by decide +kernel
theorem dL_law_350 : decode cL_law 350 = .ok (.ldc 17, 2) := by decide +kernel
theorem dL_law_352 : decode cL_law 352 = .ok (.if_icmp .ne 34, 3) := by decide +kernel
theorem dL_law_355 : decode cL_law 355 = .ok (.aload_n 1, 1) := by decide +kernel
theorem dL_law_356 : decode cL_law 356 = .ok (.iconst 0, 1) := by decide +kernel
theorem dL_law_357 : decode cL_law 357 = .ok (.iconst 0, 1) := by decide +kernel
theorem dL_law_358 : decode cL_law 358 = .ok (.iconst 0, 1) := by decide +kernel
theorem dL_law_359 : decode cL_law 359 = .ok (.bipush 6, 2) := by decide +kernel
theorem dL_law_361 : decode cL_law 361 = .ok (.invokestatic 167, 3) := by decide +kernel
theorem dL_law_364 : decode cL_law 364 = .ok (.ldc 20, 2) := by decide +kernel
theorem dL_law_366 : decode cL_law 366 = .ok (.if_icmp .ne 20, 3) := by decide +kernel
theorem dL_law_369 : decode cL_law 369 = .ok (.aload_n 1, 1) := by decide +kernel
theorem dL_law_370 : decode cL_law 370 = .ok (.iconst 0, 1) := by decide +kernel
theorem dL_law_371 : decode cL_law 371 = .ok (.iconst 0, 1) := by decide +kernel
theorem dL_law_372 : decode cL_law 372 = .ok (.iconst (-1), 1) := by decide +kernel
theorem dL_law_373 : decode cL_law 373 = .ok (.iconst 0, 1) := by decide +kernel
theorem dL_law_374 : decode cL_law 374 = .ok (.invokestatic 173, 3) := by decide +kernel
theorem dL_law_377 : decode cL_law 377 = .ok (.ldc 20, 2) := by decide +kernel
theorem dL_law_379 : decode cL_law 379 = .ok (.if_icmp .ne 7, 3) := by decide +kernel
theorem dL_law_382 : decode cL_law 382 = .ok (.iconst 1, 1) := by decide +kernel
theorem dL_law_383 : decode cL_law 383 = .ok (.goto 4, 3) := by decide +kernel
theorem dL_law_386 : decode cL_law 386 = .ok (.iconst 0, 1) := by decide +kernel
theorem dL_law_387 : decode cL_law 387 = .ok (.istore 4, 2) := by decide +kernel
theorem dL_law_389 : decode cL_law 389 = .ok (.iload 4, 2) := by decide +kernel
theorem dL_law_391 : decode cL_law 391 = .ok (.aload_n 1, 1) := by decide +kernel
theorem dL_law_392 : decode cL_law 392 = .ok (.iconst 1, 1) := by decide +kernel
theorem dL_law_393 : decode cL_law 393 = .ok (.iconst 0, 1) := by decide +kernel
theorem dL_law_394 : decode cL_law 394 = .ok (.iconst 0, 1) := by decide +kernel
theorem dL_law_395 : decode cL_law 395 = .ok (.iconst 0, 1) := by decide +kernel
theorem dL_law_396 : decode cL_law 396 = .ok (.invokestatic 144, 3) := by decide +kernel
theorem dL_law_399 : decode cL_law 399 = .ok (.ldc 17, 2) := by decide +kernel
theorem dL_law_401 : decode cL_law 401 = .ok (.if_icmp .ne 162, 3) := by decide +kernel
theorem dL_law_404 : decode cL_law 404 = .ok (.aload_n 1, 1) := by decide +kernel
theorem dL_law_405 : decode cL_law 405 = .ok (.iconst 0, 1) := by decide +kernel
theorem dL_law_406 : decode cL_law 406 = .ok (.sipush 384, 3) := by decide +kernel
theorem dL_law_409 : decode cL_law 409 = .ok (.iconst 0, 1) := by decide +kernel
theorem dL_law_410 : decode cL_law 410 = .ok (.iconst 0, 1) := by decide +kernel
theorem dL_law_411 : decode cL_law 411 = .ok (.invokestatic 144, 3) := by decide +kernel
theorem dL_law_414 : decode cL_law 414 = .ok (.ldc 20, 2) := by decide +kernel
theorem dL_law_416 : decode cL_law 416 = .ok (.if_icmp .ne 147, 3) := by decide +kernel
theorem dL_law_419 : decode cL_law 419 = .ok (.aload_n 1, 1) := by decide +kernel
theorem dL_law_420 : decode cL_law 420 = .ok (.iconst 0, 1) := by decide +kernel
theorem dL_law_421 : decode cL_law 421 = .ok (.iconst 0, 1) := by decide +kernel
theorem dL_law_422 : decode cL_law 422 = .ok (.iconst 5, 1) := by decide +kernel
theorem dL_law_423 : decode cL_law 423 = .ok (.iconst 4, 1) := by decide +kernel
theorem dL_law_424 : decode cL_law 424 = .ok (.invokestatic 144, 3) := by decide +kernel
theorem dL_law_427 : decode cL_law 427 = .ok (.ldc 20, 2) := by decide +kernel
theorem dL_law_429 : decode cL_law 429 = .ok (.if_icmp .ne 134, 3) := by decide +kernel
theorem dL_law_432 : decode cL_law 432 = .ok (.aload_n 1, 1) := by decide +kernel
theorem dL_law_433 : decode cL_law 433 = .ok (.iconst 0, 1) := by decide +kernel
theorem dL_law_434 : decode cL_law 434 = .ok (.iconst 0, 1) := by decide +kernel
theorem dL_law_435 : decode cL_law 435 = .ok (.iconst 0, 1) := by decide +kernel
theorem dL_law_436 : decode cL_law 436 = .ok (.bipush 24, 2) := by decide +kernel
theorem dL_law_438 : decode cL_law 438 = .ok (.invokestatic 151, 3) := by decide +kernel
theorem dL_law_441 : decode cL_law 441 = .ok (.ldc 20, 2) := by decide +kernel
theorem dL_law_443 : decode cL_law 443 = .ok (.if_icmp .ne 120, 3) := by decide +kernel
theorem dL_law_446 : decode cL_law 446 = .ok (.aload_n 1, 1) := by decide +kernel
theorem dL_law_447 : decode cL_law 447 = .ok (.iconst 0, 1) := by decide +kernel
theorem dL_law_448 : decode cL_law 448 = .ok (.aload_n 2, 1) := by decide +kernel
theorem dL_law_449 : decode cL_law 449 = .ok (.iconst 5, 1) := by decide +kernel
theorem dL_law_450 : decode cL_law 450 = .ok (.iaload, 1) := by decide +kernel
theorem dL_law_451 : decode cL_law 451 = .ok (.iconst 1, 1) := by decide +kernel
theorem dL_law_452 : decode cL_law 452 = .ok (.invokestatic 156, 3) := by decide +kernel
theorem dL_law_455 : decode cL_law 455 = .ok (.ldc 17, 2) := by decide +kernel
theorem dL_law_457 : decode cL_law 457 = .ok (.if_icmp .ne 106, 3) := by decide +kernel
theorem dL_law_460 : decode cL_law 460 = .ok (.aload_n 1, 1) := by decide +kernel
theorem dL_law_461 : decode cL_law 461 = .ok (.iconst 0, 1) := by decide +kernel
theorem dL_law_462 : decode cL_law 462 = .ok (.iconst 0, 1) := by decide +kernel
theorem dL_law_463 : decode cL_law 463 = .ok (.aload_n 2, 1) := by decide +kernel
theorem dL_law_464 : decode cL_law 464 = .ok (.iconst 0, 1) := by decide +kernel
theorem dL_law_465 : decode cL_law 465 = .ok (.iaload, 1) := by decide +kernel
theorem dL_law_466 : decode cL_law 466 = .ok (.iconst 1, 1) := by decide +kernel
theorem dL_law_467 : decode cL_law 467 = .ok (.iadd, 1) := by decide +kernel
theorem dL_law_468 : decode cL_law 468 = .ok (.invokestatic 196, 3) := by decide +kernel
theorem dL_law_471 : decode cL_law 471 = .ok (.ldc 17, 2) := by decide +kernel
theorem dL_law_473 : decode cL_law 473 = .ok (.if_icmp .ne 90, 3) := by decide +kernel
theorem dL_law_476 : decode cL_law 476 = .ok (.aload_n 1, 1) := by decide +kernel
theorem dL_law_477 : decode cL_law 477 = .ok (.iconst 0, 1) := by decide +kernel
theorem dL_law_478 : decode cL_law 478 = .ok (.bipush 6, 2) := by decide +kernel
theorem dL_law_480 : decode cL_law 480 = .ok (.invokestatic 193, 3) := by decide +kernel
theorem dL_law_483 : decode cL_law 483 = .ok (.ldc 20, 2) := by decide +kernel
theorem dL_law_485 : decode cL_law 485 = .ok (.if_icmp .ne 78, 3) := by decide +kernel
theorem dL_law_488 : decode cL_law 488 = .ok (.aload_n 1, 1) := by decide +kernel
theorem dL_law_489 : decode cL_law 489 = .ok (.iconst (-1), 1) := by decide +kernel
theorem dL_law_490 : decode cL_law 490 = .ok (.invokestatic 190, 3) := by decide +kernel
theorem dL_law_493 : decode cL_law 493 = .ok (.ldc 17, 2) := by decide +kernel
theorem dL_law_495 : decode cL_law 495 = .ok (.if_icmp .ne 68, 3) := by decide +kernel
theorem dL_law_498 : decode cL_law 498 = .ok (.aload_n 1, 1) := by decide +kernel
theorem dL_law_499 : decode cL_law 499 = .ok (.bipush 6, 2) := by decide +kernel
theorem dL_law_501 : decode cL_law 501 = .ok (.iconst 0, 1) := by decide +kernel
theorem dL_law_502 : decode cL_law 502 = .ok (.iconst 0, 1) := by decide +kernel
theorem dL_law_503 : decode cL_law 503 = .ok (.iconst 0, 1) := by decide +kernel
theorem dL_law_504 : decode cL_law 504 = .ok (.iconst 0, 1) := by decide +kernel
theorem dL_law_505 : decode cL_law 505 = .ok (.iconst 0, 1) := by decide +kernel
theorem dL_law_506 : decode cL_law 506 = .ok (.invokestatic 135, 3) := by decide +kernel
theorem dL_law_509 : decode cL_law 509 = .ok (.ldc 17, 2) := by decide +kernel
theorem dL_law_511 : decode cL_law 511 = .ok (.if_icmp .ne 52, 3) := by decide +kernel
theorem dL_law_514 : decode cL_law 514 = .ok (.aload_n 1, 1) := by decide +kernel
theorem dL_law_515 : decode cL_law 515 = .ok (.iconst 0, 1) := by decide +kernel
theorem dL_law_516 : decode cL_law 516 = .ok (.iconst 0, 1) := by decide +kernel
theorem dL_law_517 : decode cL_law 517 = .ok (.iconst 3, 1) := by decide +kernel
theorem dL_law_518 : decode cL_law 518 = .ok (.iconst 0, 1) := by decide +kernel
theorem dL_law_519 : decode cL_law 519 = .ok (.iconst 0, 1) := by decide +kernel
theorem dL_law_520 : decode cL_law 520 = .ok (.iconst 0, 1) := by decide +kernel
theorem dL_law_521 : decode cL_law 521 = .ok (.invokestatic 135, 3) := by decide +kernel
theorem dL_law_524 : decode cL_law 524 = .ok (.ldc 17, 2) := by decide +kernel
theorem dL_law_526 : decode cL_law 526 = .ok (.if_icmp .ne 37, 3) := by decide +kernel
theorem dL_law_529 : decode cL_law 529 = .ok (.aload_n 1, 1) := by decide +kernel
theorem dL_law_530 : decode cL_law 530 = .ok (.aload_n 2, 1) := by decide +kernel
theorem dL_law_531 : decode cL_law 531 = .ok (.iconst 5, 1) := by decide +kernel
theorem dL_law_532 : decode cL_law 532 = .ok (.iaload, 1) := by decide +kernel
theorem dL_law_533 : decode cL_law 533 = .ok (.iconst 0, 1) := by decide +kernel
theorem dL_law_534 : decode cL_law 534 = .ok (.iconst 0, 1) := by decide +kernel
theorem dL_law_535 : decode cL_law 535 = .ok (.iconst 0, 1) := by decide +kernel
theorem dL_law_536 : decode cL_law 536 = .ok (.iconst 0, 1) := by decide +kernel
theorem dL_law_537 : decode cL_law 537 = .ok (.invokestatic 138, 3) := by decide +kernel
theorem dL_law_540 : decode cL_law 540 = .ok (.ldc 17, 2) := by decide +kernel
theorem dL_law_542 : decode cL_law 542 = .ok (.if_icmp .ne 21, 3) := by decide +kernel
theorem dL_law_545 : decode cL_law 545 = .ok (.aload_n 1, 1) := by decide +kernel
theorem dL_law_546 : decode cL_law 546 = .ok (.iconst 0, 1) := by decide +kernel
theorem dL_law_547 : decode cL_law 547 = .ok (.iconst 0, 1) := by decide +kernel
theorem dL_law_548 : decode cL_law 548 = .ok (.iconst 0, 1) := by decide +kernel
theorem dL_law_549 : decode cL_law 549 = .ok (.iconst 3, 1) := by decide +kernel
theorem dL_law_550 : decode cL_law 550 = .ok (.iconst 0, 1) := by decide +kernel
theorem dL_law_551 : decode cL_law 551 = .ok (.invokestatic 138, 3) := by decide +kernel
theorem dL_law_554 : decode cL_law 554 = .ok (.ldc 20, 2) := by decide +kernel
theorem dL_law_556 : decode cL_law 556 = .ok (.if_icmp .ne 7, 3) := by decide +kernel
theorem dL_law_559 : decode cL_law 559 = .ok (.iconst 1, 1) := by decide +kernel
theorem dL_law_560 : decode cL_law 560 = .ok (.goto 4, 3) := by decide +kernel
theorem dL_law_563 : decode cL_law 563 = .ok (.iconst 0, 1) := by decide +kernel
theorem dL_law_564 : decode cL_law 564 = .ok (.iand, 1) := by decide +kernel
theorem dL_law_565 : decode cL_law 565 = .ok (.istore 4, 2) := by decide +kernel
theorem dL_law_567 : decode cL_law 567 = .ok (.bipush 64, 2) := by decide +kernel
theorem dL_law_569 : decode cL_law 569 = .ok (.aload_n 0, 1) := by decide +kernel
theorem dL_law_570 : decode cL_law 570 = .ok (.bipush 6, 2) := by decide +kernel
theorem dL_law_572 : decode cL_law 572 = .ok (.iconst 4, 1) := by decide +kernel
theorem dL_law_573 : decode cL_law 573 = .ok (.invokestatic 127, 3) := by decide +kernel
theorem dL_law_576 : decode cL_law 576 = .ok (.imul, 1) := by decide +kernel
theorem dL_law_577 : decode cL_law 577 = .ok (.bipush 8, 2) := by decide +kernel
theorem dL_law_579 : decode cL_law 579 = .ok (.aload_n 0, 1) := by decide +kernel
theorem dL_law_580 : decode cL_law 580 = .ok (.bipush 7, 2) := by decide +kernel
theorem dL_law_582 : decode cL_law 582 = .ok (.iconst 4, 1) := by decide +kernel
theorem dL_law_583 : decode cL_law 583 = .ok (.invokestatic 127, 3) := by decide +kernel
theorem dL_law_586 : decode cL_law 586 = .ok (.imul, 1) := by decide +kernel
theorem dL_law_587 : decode cL_law 587 = .ok (.iadd, 1) := by decide +kernel
theorem dL_law_588 : decode cL_law 588 = .ok (.istore 5, 2) := by decide +kernel
theorem dL_law_590 : decode cL_law 590 = .ok (.aload_n 0, 1) := by decide +kernel
theorem dL_law_591 : decode cL_law 591 = .ok (.bipush 8, 2) := by decide +kernel
theorem dL_law_593 : decode cL_law 593 = .ok (.bipush 24, 2) := by decide +kernel
theorem dL_law_595 : decode cL_law 595 = .ok (.invokestatic 127, 3) := by decide +kernel
theorem dL_law_598 : decode cL_law 598 = .ok (.istore 6, 2) := by decide +kernel
theorem dL_law_600 : decode cL_law 600 = .ok (.iload 4, 2) := by decide +kernel
theorem dL_law_602 : decode cL_law 602 = .ok (.aload_n 1, 1) := by decide +kernel
theorem dL_law_603 : decode cL_law 603 = .ok (.iload 5, 2) := by decide +kernel
theorem dL_law_605 : decode cL_law 605 = .ok (.bipush 64, 2) := by decide +kernel
theorem dL_law_607 : decode cL_law 607 = .ok (.idiv, 1) := by decide +kernel
theorem dL_law_608 : decode cL_law 608 = .ok (.iconst 1, 1) := by decide +kernel
theorem dL_law_609 : decode cL_law 609 = .ok (.invokestatic 211, 3) := by decide +kernel
theorem dL_law_612 : decode cL_law 612 = .ok (.ifCond .ne 33, 3) := by decide +kernel
theorem dL_law_615 : decode cL_law 615 = .ok (.aload_n 1, 1) := by decide +kernel
theorem dL_law_616 : decode cL_law 616 = .ok (.iload 5, 2) := by decide +kernel
theorem dL_law_618 : decode cL_law 618 = .ok (.bipush 64, 2) := by decide +kernel
theorem dL_law_620 : decode cL_law 620 = .ok (.idiv, 1) := by decide +kernel
theorem dL_law_621 : decode cL_law 621 = .ok (.iconst 1, 1) := by decide +kernel
theorem dL_law_622 : decode cL_law 622 = .ok (.invokestatic 211, 3) := by decide +kernel
theorem dL_law_625 : decode cL_law 625 = .ok (.iconst 1, 1) := by decide +kernel
theorem dL_law_626 : decode cL_law 626 = .ok (.if_icmp .ne 19, 3) := by decide +kernel
theorem dL_law_629 : decode cL_law 629 = .ok (.aload_n 1, 1) := by decide +kernel
theorem dL_law_630 : decode cL_law 630 = .ok (.bipush 6, 2) := by decide +kernel
theorem dL_law_632 : decode cL_law 632 = .ok (.iconst 1, 1) := by decide +kernel
theorem dL_law_633 : decode cL_law 633 = .ok (.invokestatic 211, 3) := by decide +kernel
theorem dL_law_636 : decode cL_law 636 = .ok (.ldc 17, 2) := by decide +kernel
theorem dL_law_638 : decode cL_law 638 = .ok (.if_icmp .ne 7, 3) := by decide +kernel
theorem dL_law_641 : decode cL_law 641 = .ok (.iconst 1, 1) := by decide +kernel
theorem dL_law_642 : decode cL_law 642 = .ok (.goto 4, 3) := by decide +kernel
theorem dL_law_645 : decode cL_law 645 = .ok (.iconst 0, 1) := by decide +kernel
theorem dL_law_646 : decode cL_law 646 = .ok (.iand, 1) := by decide +kernel
theorem dL_law_647 : decode cL_law 647 = .ok (.istore 4, 2) := by decide +kernel
theorem dL_law_649 : decode cL_law 649 = .ok (.iconst 0, 1) := by decide +kernel
theorem dL_law_650 : decode cL_law 650 = .ok (.istore 7, 2) := by decide +kernel
theorem dL_law_652 : decode cL_law 652 = .ok (.iload 5, 2) := by decide +kernel
theorem dL_law_654 : decode cL_law 654 = .ok (.iconst 1, 1) := by decide +kernel
theorem dL_law_655 : decode cL_law 655 = .ok (.iadd, 1) := by decide +kernel
theorem dL_law_656 : decode cL_law 656 = .ok (.istore 8, 2) := by decide +kernel
theorem dL_law_658 : decode cL_law 658 = .ok (.iload 8, 2) := by decide +kernel
theorem dL_law_660 : decode cL_law 660 = .ok (.iload 5, 2) := by decide +kernel
theorem dL_law_662 : decode cL_law 662 = .ok (.bipush 8, 2) := by decide +kernel
theorem dL_law_664 : decode cL_law 664 = .ok (.iadd, 1) := by decide +kernel
theorem dL_law_665 : decode cL_law 665 = .ok (.if_icmp .ge 26, 3) := by decide +kernel
theorem dL_law_668 : decode cL_law 668 = .ok (.iload 7, 2) := by decide +kernel
theorem dL_law_670 : decode cL_law 670 = .ok (.aload_n 2, 1) := by decide +kernel
theorem dL_law_671 : decode cL_law 671 = .ok (.iconst 0, 1) := by decide +kernel
theorem dL_law_672 : decode cL_law 672 = .ok (.aload_n 2, 1) := by decide +kernel
theorem dL_law_673 : decode cL_law 673 = .ok (.iconst 0, 1) := by decide +kernel
theorem dL_law_674 : decode cL_law 674 = .ok (.iaload, 1) := by decide +kernel
theorem dL_law_675 : decode cL_law 675 = .ok (.iload 6, 2) := by decide +kernel
theorem dL_law_677 : decode cL_law 677 = .ok (.iload 8, 2) := by decide +kernel
theorem dL_law_679 : decode cL_law 679 = .ok (.invokestatic 214, 3) := by decide +kernel
theorem dL_law_682 : decode cL_law 682 = .ok (.ior, 1) := by decide +kernel
theorem dL_law_683 : decode cL_law 683 = .ok (.istore 7, 2) := by decide +kernel
theorem dL_law_685 : decode cL_law 685 = .ok (.iinc 8 1, 3) := by decide +kernel
theorem dL_law_688 : decode cL_law 688 = .ok (.goto (-30), 3) := by decide +kernel
theorem dL_law_691 : decode cL_law 691 = .ok (.iload 4, 2) := by decide +kernel
theorem dL_law_693 : decode cL_law 693 = .ok (.ifCond .eq 36, 3) := by decide +kernel
theorem dL_law_696 : decode cL_law 696 = .ok (.aload_n 1, 1) := by decide +kernel
theorem dL_law_697 : decode cL_law 697 = .ok (.iconst 0, 1) := by decide +kernel
theorem dL_law_698 : decode cL_law 698 = .ok (.iload 5, 2) := by decide +kernel
theorem dL_law_700 : decode cL_law 700 = .ok (.iload 6, 2) := by decide +kernel
theorem dL_law_702 : decode cL_law 702 = .ok (.iload 6, 2) := by decide +kernel
theorem dL_law_704 : decode cL_law 704 = .ok (.invokestatic 144, 3) := by decide +kernel
theorem dL_law_707 : decode cL_law 707 = .ok (.iload 7, 2) := by decide +kernel
theorem dL_law_709 : decode cL_law 709 = .ok (.ifCond .eq 8, 3) := by decide +kernel
theorem dL_law_712 : decode cL_law 712 = .ok (.ldc 23, 2) := by decide +kernel
theorem dL_law_714 : decode cL_law 714 = .ok (.goto 8, 3) := by decide +kernel
theorem dL_law_717 : decode cL_law 717 = .ok (.aload_n 2, 1) := by decide +kernel
theorem dL_law_718 : decode cL_law 718 = .ok (.iconst 0, 1) := by decide +kernel
theorem dL_law_719 : decode cL_law 719 = .ok (.iaload, 1) := by decide +kernel
theorem dL_law_720 : decode cL_law 720 = .ok (.iconst 1, 1) := by decide +kernel
theorem dL_law_721 : decode cL_law 721 = .ok (.iadd, 1) := by decide +kernel
theorem dL_law_722 : decode cL_law 722 = .ok (.if_icmp .ne 7, 3) := by decide +kernel
theorem dL_law_725 : decode cL_law 725 = .ok (.iconst 1, 1) := by decide +kernel
theorem dL_law_726 : decode cL_law 726 = .ok (.goto 4, 3) := by decide +kernel
theorem dL_law_729 : decode cL_law 729 = .ok (.iconst 0, 1) := by decide +kernel
theorem dL_law_730 : decode cL_law 730 = .ok (.ireturn, 1) := by decide +kernel
