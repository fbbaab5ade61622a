set_option maxRecDepth 20000 in
theorem ggL_tick_L_qualities : GoodIn wsL_tick wsL_qualities := goodIn_r _ [5, 6, 7, 4, 8, 9, 10, 11] (by decide +kernel) (by decide +kernel)
set_option maxRecDepth 20000 in
theorem gL_tick_L_qualities : GoodIn wsL_tick (va_wsS RL 19 yL_qualities wsL_qualities) := goodIn_app (goodIn_of _ (by decide +kernel)) ggL_tick_L_qualities
set_option maxRecDepth 20000 in
theorem ggL_tick_L_load : GoodIn wsL_tick wsL_load := goodIn_r _ [11] (by decide +kernel) (by decide +kernel)
set_option maxRecDepth 20000 in
theorem gL_tick_L_load : GoodIn wsL_tick (va_wsS RL 15 yL_load wsL_load) := goodIn_app (goodIn_of _ (by decide +kernel)) ggL_tick_L_load
theorem dL_tick_0 : decode cL_tick 0 = .ok (.bipush 16, 2) := by decide +kernel
theorem dL_tick_2 : decode cL_tick 2 = .ok (.newarray .int, 2) := by decide +kernel
theorem dL_tick_4 : decode cL_tick 4 = .ok (.astore_n 3, 1) := by decide +kernel
theorem dL_tick_5 : decode cL_tick 5 = .ok (.aload_n 0, 1) := by decide +kernel
theorem dL_tick_6 : decode cL_tick 6 = .ok (.iconst 2, 1) := by decide +kernel
theorem dL_tick_7 : decode cL_tick 7 = .ok (.dup2, 1) := by decide +kernel
theorem dL_tick_8 : decode cL_tick 8 = .ok (.iaload, 1) := by decide +kernel
theorem dL_tick_9 : decode cL_tick 9 = .ok (.iconst 1, 1) := by decide +kernel
theorem dL_tick_10 : decode cL_tick 10 = .ok (.iadd, 1) := by decide +kernel
theorem dL_tick_11 : decode cL_tick 11 = .ok (.iastore, 1) := by decide +kernel
theorem dL_tick_12 : decode cL_tick 12 = .ok (.aload_n 0, 1) := by decide +kernel
theorem dL_tick_13 : decode cL_tick 13 = .ok (.aload_n 1, 1) := by decide +kernel
theorem dL_tick_14 : decode cL_tick 14 = .ok (.aload_n 2, 1) := by decide +kernel
theorem dL_tick_15 : decode cL_tick 15 = .ok (.aload_n 3, 1) := by decide +kernel
theorem dL_tick_16 : decode cL_tick 16 = .ok (.invokestatic 19, 3) := by decide +kernel
theorem dL_tick_19 : decode cL_tick 19 = .ok (.iconst 0, 1) := by decide +kernel
theorem dL_tick_20 : decode cL_tick 20 = .ok (.istore 4, 2) := by decide +kernel
theorem dL_tick_22 : decode cL_tick 22 = .ok (.iload 4, 2) := by decide +kernel
theorem dL_tick_24 : decode cL_tick 24 = .ok (.aload_n 0, 1) := by decide +kernel
theorem dL_tick_25 : decode cL_tick 25 = .ok (.iconst 1, 1) := by decide +kernel
theorem dL_tick_26 : decode cL_tick 26 = .ok (.iaload, 1) := by decide +kernel
theorem dL_tick_27 : decode cL_tick 27 = .ok (.if_icmp .ge 434, 3) := by decide +kernel
theorem dL_tick_30 : decode cL_tick 30 = .ok (.aload_n 2, 1) := by decide +kernel
theorem dL_tick_31 : decode cL_tick 31 = .ok (.bipush 12, 2) := by decide +kernel
theorem dL_tick_33 : decode cL_tick 33 = .ok (.iload 4, 2) := by decide +kernel
theorem dL_tick_35 : decode cL_tick 35 = .ok (.iadd, 1) := by decide +kernel
theorem dL_tick_36 : decode cL_tick 36 = .ok (.iaload, 1) := by decide +kernel
theorem dL_tick_37 : decode cL_tick 37 = .ok (.istore 5, 2) := by decide +kernel
theorem dL_tick_39 : decode cL_tick 39 = .ok (.iconst (-1), 1) := by decide +kernel
theorem dL_tick_40 : decode cL_tick 40 = .ok (.istore 6, 2) := by decide +kernel
theorem dL_tick_42 : decode cL_tick 42 = .ok (.iconst 0, 1) := by decide +kernel
theorem dL_tick_43 : decode cL_tick 43 = .ok (.istore 7, 2) := by decide +kernel
theorem dL_tick_45 : decode cL_tick 45 = .ok (.iload 7, 2) := by decide +kernel
theorem dL_tick_47 : decode cL_tick 47 = .ok (.aload_n 0, 1) := by decide +kernel
theorem dL_tick_48 : decode cL_tick 48 = .ok (.iconst 0, 1) := by decide +kernel
theorem dL_tick_49 : decode cL_tick 49 = .ok (.iaload, 1) := by decide +kernel
theorem dL_tick_50 : decode cL_tick 50 = .ok (.if_icmp .ge 99, 3) := by decide +kernel
theorem dL_tick_53 : decode cL_tick 53 = .ok (.iload 7, 2) := by decide +kernel
theorem dL_tick_55 : decode cL_tick 55 = .ok (.iload 5, 2) := by decide +kernel
theorem dL_tick_57 : decode cL_tick 57 = .ok (.if_icmp .eq 43, 3) := by decide +kernel
theorem dL_tick_60 : decode cL_tick 60 = .ok (.aload_n 1, 1) := by decide +kernel
theorem dL_tick_61 : decode cL_tick 61 = .ok (.bipush 16, 2) := by decide +kernel
theorem dL_tick_63 : decode cL_tick 63 = .ok (.iload 7, 2) := by decide +kernel
theorem dL_tick_65 : decode cL_tick 65 = .ok (.iadd, 1) := by decide +kernel
theorem dL_tick_66 : decode cL_tick 66 = .ok (.iaload, 1) := by decide +kernel
theorem dL_tick_67 : decode cL_tick 67 = .ok (.iconst 1, 1) := by decide +kernel
theorem dL_tick_68 : decode cL_tick 68 = .ok (.if_icmp .ne 32, 3) := by decide +kernel
theorem dL_tick_71 : decode cL_tick 71 = .ok (.aload_n 0, 1) := by decide +kernel
theorem dL_tick_72 : decode cL_tick 72 = .ok (.aload_n 2, 1) := by decide +kernel
theorem dL_tick_73 : decode cL_tick 73 = .ok (.iload 7, 2) := by decide +kernel
theorem dL_tick_75 : decode cL_tick 75 = .ok (.invokestatic 15, 3) := by decide +kernel
theorem dL_tick_78 : decode cL_tick 78 = .ok (.aload_n 2, 1) := by decide +kernel
theorem dL_tick_79 : decode cL_tick 79 = .ok (.bipush 8, 2) := by decide +kernel
theorem dL_tick_81 : decode cL_tick 81 = .ok (.iload 4, 2) := by decide +kernel
theorem dL_tick_83 : decode cL_tick 83 = .ok (.iadd, 1) := by decide +kernel
theorem dL_tick_84 : decode cL_tick 84 = .ok (.iaload, 1) := by decide +kernel
theorem dL_tick_85 : decode cL_tick 85 = .ok (.iadd, 1) := by decide +kernel
theorem dL_tick_86 : decode cL_tick 86 = .ok (.aload_n 1, 1) := by decide +kernel
theorem dL_tick_87 : decode cL_tick 87 = .ok (.bipush 12, 2) := by decide +kernel
theorem dL_tick_89 : decode cL_tick 89 = .ok (.iload 7, 2) := by decide +kernel
theorem dL_tick_91 : decode cL_tick 91 = .ok (.iadd, 1) := by decide +kernel
theorem dL_tick_92 : decode cL_tick 92 = .ok (.iaload, 1) := by decide +kernel
theorem dL_tick_93 : decode cL_tick 93 = .ok (.if_icmp .gt 7, 3) := by decide +kernel
theorem dL_tick_96 : decode cL_tick 96 = .ok (.iconst 1, 1) := by decide +kernel
theorem dL_tick_97 : decode cL_tick 97 = .ok (.goto 4, 3) := by decide +kernel
theorem dL_tick_100 : decode cL_tick 100 = .ok (.iconst 0, 1) := by decide +kernel
theorem dL_tick_101 : decode cL_tick 101 = .ok (.istore 8, 2) := by decide +kernel
theorem dL_tick_103 : decode cL_tick 103 = .ok (.iload 8, 2) := by decide +kernel
theorem dL_tick_105 : decode cL_tick 105 = .ok (.ifCond .eq 34, 3) := by decide +kernel
theorem dL_tick_108 : decode cL_tick 108 = .ok (.iload 6, 2) := by decide +kernel
theorem dL_tick_110 : decode cL_tick 110 = .ok (.ifCond .lt 24, 3) := by decide +kernel
theorem dL_tick_113 : decode cL_tick 113 = .ok (.aload_n 3, 1) := by decide +kernel
theorem dL_tick_114 : decode cL_tick 114 = .ok (.iconst 4, 1) := by decide +kernel
theorem dL_tick_115 : decode cL_tick 115 = .ok (.iload 7, 2) := by decide +kernel
theorem dL_tick_117 : decode cL_tick 117 = .ok (.imul, 1) := by decide +kernel
theorem dL_tick_118 : decode cL_tick 118 = .ok (.iload 4, 2) := by decide +kernel
theorem dL_tick_120 : decode cL_tick 120 = .ok (.iadd, 1) := by decide +kernel
theorem dL_tick_121 : decode cL_tick 121 = .ok (.iaload, 1) := by decide +kernel
theorem dL_tick_122 : decode cL_tick 122 = .ok (.aload_n 3, 1) := by decide +kernel
theorem dL_tick_123 : decode cL_tick 123 = .ok (.iconst 4, 1) := by decide +kernel
theorem dL_tick_124 : decode cL_tick 124 = .ok (.iload 6, 2) := by decide +kernel
theorem dL_tick_126 : decode cL_tick 126 = .ok (.imul, 1) := by decide +kernel
theorem dL_tick_127 : decode cL_tick 127 = .ok (.iload 4, 2) := by decide +kernel
theorem dL_tick_129 : decode cL_tick 129 = .ok (.iadd, 1) := by decide +kernel
theorem dL_tick_130 : decode cL_tick 130 = .ok (.iaload, 1) := by decide +kernel
theorem dL_tick_131 : decode cL_tick 131 = .ok (.if_icmp .le 8, 3) := by decide +kernel
theorem dL_tick_134 : decode cL_tick 134 = .ok (.iload 7, 2) := by decide +kernel
theorem dL_tick_136 : decode cL_tick 136 = .ok (.goto 5, 3) := by decide +kernel
theorem dL_tick_139 : decode cL_tick 139 = .ok (.iload 6, 2) := by decide +kernel
theorem dL_tick_141 : decode cL_tick 141 = .ok (.istore 6, 2) := by decide +kernel
theorem dL_tick_143 : decode cL_tick 143 = .ok (.iinc 7 1, 3) := by decide +kernel
theorem dL_tick_146 : decode cL_tick 146 = .ok (.goto (-101), 3) := by decide +kernel
theorem dL_tick_149 : decode cL_tick 149 = .ok (.iload 5, 2) := by decide +kernel
theorem dL_tick_151 : decode cL_tick 151 = .ok (.ifCond .ge 40, 3) := by decide +kernel
theorem dL_tick_154 : decode cL_tick 154 = .ok (.aload_n 2, 1) := by decide +kernel
theorem dL_tick_155 : decode cL_tick 155 = .ok (.bipush 12, 2) := by decide +kernel
theorem dL_tick_157 : decode cL_tick 157 = .ok (.iload 4, 2) := by decide +kernel
theorem dL_tick_159 : decode cL_tick 159 = .ok (.iadd, 1) := by decide +kernel
theorem dL_tick_160 : decode cL_tick 160 = .ok (.iload 6, 2) := by decide +kernel
theorem dL_tick_162 : decode cL_tick 162 = .ok (.ifCond .lt 24, 3) := by decide +kernel
theorem dL_tick_165 : decode cL_tick 165 = .ok (.aload_n 3, 1) := by decide +kernel
theorem dL_tick_166 : decode cL_tick 166 = .ok (.iconst 4, 1) := by decide +kernel
theorem dL_tick_167 : decode cL_tick 167 = .ok (.iload 6, 2) := by decide +kernel
theorem dL_tick_169 : decode cL_tick 169 = .ok (.imul, 1) := by decide +kernel
theorem dL_tick_170 : decode cL_tick 170 = .ok (.iload 4, 2) := by decide +kernel
theorem dL_tick_172 : decode cL_tick 172 = .ok (.iadd, 1) := by decide +kernel
theorem dL_tick_173 : decode cL_tick 173 = .ok (.iaload, 1) := by decide +kernel
theorem dL_tick_174 : decode cL_tick 174 = .ok (.aload_n 0, 1) := by decide +kernel
theorem dL_tick_175 : decode cL_tick 175 = .ok (.bipush 8, 2) := by decide +kernel
theorem dL_tick_177 : decode cL_tick 177 = .ok (.iaload, 1) := by decide +kernel
theorem dL_tick_178 : decode cL_tick 178 = .ok (.if_icmp .lt 8, 3) := by decide +kernel
theorem dL_tick_181 : decode cL_tick 181 = .ok (.iload 6, 2) := by decide +kernel
theorem dL_tick_183 : decode cL_tick 183 = .ok (.goto 4, 3) := by decide +kernel
theorem dL_tick_186 : decode cL_tick 186 = .ok (.iconst (-1), 1) := by decide +kernel
theorem dL_tick_187 : decode cL_tick 187 = .ok (.iastore, 1) := by decide +kernel
theorem dL_tick_188 : decode cL_tick 188 = .ok (.goto 267, 3) := by decide +kernel
theorem dL_tick_191 : decode cL_tick 191 = .ok (.aload_n 3, 1) := by decide +kernel
theorem dL_tick_192 : decode cL_tick 192 = .ok (.iconst 4, 1) := by decide +kernel
theorem dL_tick_193 : decode cL_tick 193 = .ok (.iload 5, 2) := by decide +kernel
theorem dL_tick_195 : decode cL_tick 195 = .ok (.imul, 1) := by decide +kernel
theorem dL_tick_196 : decode cL_tick 196 = .ok (.iload 4, 2) := by decide +kernel
theorem dL_tick_198 : decode cL_tick 198 = .ok (.iadd, 1) := by decide +kernel
theorem dL_tick_199 : decode cL_tick 199 = .ok (.iaload, 1) := by decide +kernel
theorem dL_tick_200 : decode cL_tick 200 = .ok (.aload_n 0, 1) := by decide +kernel
theorem dL_tick_201 : decode cL_tick 201 = .ok (.bipush 8, 2) := by decide +kernel
theorem dL_tick_203 : decode cL_tick 203 = .ok (.iaload, 1) := by decide +kernel
theorem dL_tick_204 : decode cL_tick 204 = .ok (.if_icmp .ge 45, 3) := by decide +kernel
theorem dL_tick_207 : decode cL_tick 207 = .ok (.aload_n 2, 1) := by decide +kernel
theorem dL_tick_208 : decode cL_tick 208 = .ok (.bipush 12, 2) := by decide +kernel
theorem dL_tick_210 : decode cL_tick 210 = .ok (.iload 4, 2) := by decide +kernel
theorem dL_tick_212 : decode cL_tick 212 = .ok (.iadd, 1) := by decide +kernel
theorem dL_tick_213 : decode cL_tick 213 = .ok (.iconst (-1), 1) := by decide +kernel
theorem dL_tick_214 : decode cL_tick 214 = .ok (.iastore, 1) := by decide +kernel
theorem dL_tick_215 : decode cL_tick 215 = .ok (.aload_n 2, 1) := by decide +kernel
theorem dL_tick_216 : decode cL_tick 216 = .ok (.bipush 16, 2) := by decide +kernel
theorem dL_tick_218 : decode cL_tick 218 = .ok (.iload 4, 2) := by decide +kernel
theorem dL_tick_220 : decode cL_tick 220 = .ok (.iadd, 1) := by decide +kernel
theorem dL_tick_221 : decode cL_tick 221 = .ok (.iconst (-1), 1) := by decide +kernel
theorem dL_tick_222 : decode cL_tick 222 = .ok (.iastore, 1) := by decide +kernel
theorem dL_tick_223 : decode cL_tick 223 = .ok (.aload_n 2, 1) := by decide +kernel
theorem dL_tick_224 : decode cL_tick 224 = .ok (.bipush 20, 2) := by decide +kernel
theorem dL_tick_226 : decode cL_tick 226 = .ok (.iload 4, 2) := by decide +kernel
theorem dL_tick_228 : decode cL_tick 228 = .ok (.iadd, 1) := by decide +kernel
theorem dL_tick_229 : decode cL_tick 229 = .ok (.iconst 0, 1) := by decide +kernel
theorem dL_tick_230 : decode cL_tick 230 = .ok (.iastore, 1) := by decide +kernel
theorem dL_tick_231 : decode cL_tick 231 = .ok (.aload_n 2, 1) := by decide +kernel
theorem dL_tick_232 : decode cL_tick 232 = .ok (.bipush 24, 2) := by decide +kernel
theorem dL_tick_234 : decode cL_tick 234 = .ok (.iload 4, 2) := by decide +kernel
theorem dL_tick_236 : decode cL_tick 236 = .ok (.iadd, 1) := by decide +kernel
theorem dL_tick_237 : decode cL_tick 237 = .ok (.iconst (-1), 1) := by decide +kernel
theorem dL_tick_238 : decode cL_tick 238 = .ok (.iastore, 1) := by decide +kernel
theorem dL_tick_239 : decode cL_tick 239 = .ok (.aload_n 0, 1) := by decide +kernel
theorem dL_tick_240 : decode cL_tick 240 = .ok (.iconst 5, 1) := by decide +kernel
theorem dL_tick_241 : decode cL_tick 241 = .ok (.dup2, 1) := by decide +kernel
theorem dL_tick_242 : decode cL_tick 242 = .ok (.iaload, 1) := by decide +kernel
theorem dL_tick_243 : decode cL_tick 243 = .ok (.iconst 1, 1) := by decide +kernel
theorem dL_tick_244 : decode cL_tick 244 = .ok (.iadd, 1) := by decide +kernel
theorem dL_tick_245 : decode cL_tick 245 = .ok (.iastore, 1) := by decide +kernel
theorem dL_tick_246 : decode cL_tick 246 = .ok (.goto 209, 3) := by decide +kernel
theorem dL_tick_249 : decode cL_tick 249 = .ok (.iload 6, 2) := by decide +kernel
theorem dL_tick_251 : decode cL_tick 251 = .ok (.ifCond .lt 33, 3) := by decide +kernel
theorem dL_tick_254 : decode cL_tick 254 = .ok (.aload_n 3, 1) := by decide +kernel
theorem dL_tick_255 : decode cL_tick 255 = .ok (.iconst 4, 1) := by decide +kernel
theorem dL_tick_256 : decode cL_tick 256 = .ok (.iload 6, 2) := by decide +kernel
theorem dL_tick_258 : decode cL_tick 258 = .ok (.imul, 1) := by decide +kernel
theorem dL_tick_259 : decode cL_tick 259 = .ok (.iload 4, 2) := by decide +kernel
theorem dL_tick_261 : decode cL_tick 261 = .ok (.iadd, 1) := by decide +kernel
theorem dL_tick_262 : decode cL_tick 262 = .ok (.iaload, 1) := by decide +kernel
theorem dL_tick_263 : decode cL_tick 263 = .ok (.aload_n 3, 1) := by decide +kernel
theorem dL_tick_264 : decode cL_tick 264 = .ok (.iconst 4, 1) := by decide +kernel
theorem dL_tick_265 : decode cL_tick 265 = .ok (.iload 5, 2) := by decide +kernel
theorem dL_tick_267 : decode cL_tick 267 = .ok (.imul, 1) := by decide +kernel
theorem dL_tick_268 : decode cL_tick 268 = .ok (.iload 4, 2) := by decide +kernel
theorem dL_tick_270 : decode cL_tick 270 = .ok (.iadd, 1) := by decide +kernel
theorem dL_tick_271 : decode cL_tick 271 = .ok (.iaload, 1) := by decide +kernel
theorem dL_tick_272 : decode cL_tick 272 = .ok (.aload_n 0, 1) := by decide +kernel
theorem dL_tick_273 : decode cL_tick 273 = .ok (.bipush 6, 2) := by decide +kernel
theorem dL_tick_275 : decode cL_tick 275 = .ok (.iaload, 1) := by decide +kernel
theorem dL_tick_276 : decode cL_tick 276 = .ok (.iadd, 1) := by decide +kernel
theorem dL_tick_277 : decode cL_tick 277 = .ok (.if_icmp .lt 7, 3) := by decide +kernel
theorem dL_tick_280 : decode cL_tick 280 = .ok (.iconst 1, 1) := by decide +kernel
theorem dL_tick_281 : decode cL_tick 281 = .ok (.goto 4, 3) := by decide +kernel
theorem dL_tick_284 : decode cL_tick 284 = .ok (.iconst 0, 1) := by decide +kernel
theorem dL_tick_285 : decode cL_tick 285 = .ok (.istore 7, 2) := by decide +kernel
theorem dL_tick_287 : decode cL_tick 287 = .ok (.aload_n 2, 1) := by decide +kernel
theorem dL_tick_288 : decode cL_tick 288 = .ok (.bipush 20, 2) := by decide +kernel
theorem dL_tick_290 : decode cL_tick 290 = .ok (.iload 4, 2) := by decide +kernel
theorem dL_tick_292 : decode cL_tick 292 = .ok (.iadd, 1) := by decide +kernel
theorem dL_tick_293 : decode cL_tick 293 = .ok (.iload 7, 2) := by decide +kernel
theorem dL_tick_295 : decode cL_tick 295 = .ok (.ifCond .ne 7, 3) := by decide +kernel
theorem dL_tick_298 : decode cL_tick 298 = .ok (.iconst 0, 1) := by decide +kernel
theorem dL_tick_299 : decode cL_tick 299 = .ok (.goto 28, 3) := by decide +kernel
theorem dL_tick_302 : decode cL_tick 302 = .ok (.aload_n 2, 1) := by decide +kernel
theorem dL_tick_303 : decode cL_tick 303 = .ok (.bipush 16, 2) := by decide +kernel
theorem dL_tick_305 : decode cL_tick 305 = .ok (.iload 4, 2) := by decide +kernel
theorem dL_tick_307 : decode cL_tick 307 = .ok (.iadd, 1) := by decide +kernel
theorem dL_tick_308 : decode cL_tick 308 = .ok (.iaload, 1) := by decide +kernel
theorem dL_tick_309 : decode cL_tick 309 = .ok (.iload 6, 2) := by decide +kernel
theorem dL_tick_311 : decode cL_tick 311 = .ok (.if_icmp .ne 15, 3) := by decide +kernel
theorem dL_tick_314 : decode cL_tick 314 = .ok (.aload_n 2, 1) := by decide +kernel
theorem dL_tick_315 : decode cL_tick 315 = .ok (.bipush 20, 2) := by decide +kernel
theorem dL_tick_317 : decode cL_tick 317 = .ok (.iload 4, 2) := by decide +kernel
theorem dL_tick_319 : decode cL_tick 319 = .ok (.iadd, 1) := by decide +kernel
theorem dL_tick_320 : decode cL_tick 320 = .ok (.iaload, 1) := by decide +kernel
theorem dL_tick_321 : decode cL_tick 321 = .ok (.iconst 1, 1) := by decide +kernel
theorem dL_tick_322 : decode cL_tick 322 = .ok (.iadd, 1) := by decide +kernel
theorem dL_tick_323 : decode cL_tick 323 = .ok (.goto 4, 3) := by decide +kernel
theorem dL_tick_326 : decode cL_tick 326 = .ok (.iconst 1, 1) := by decide +kernel
theorem dL_tick_327 : decode cL_tick 327 = .ok (.iastore, 1) := by decide +kernel
theorem dL_tick_328 : decode cL_tick 328 = .ok (.aload_n 2, 1) := by decide +kernel
theorem dL_tick_329 : decode cL_tick 329 = .ok (.bipush 16, 2) := by decide +kernel
theorem dL_tick_331 : decode cL_tick 331 = .ok (.iload 4, 2) := by decide +kernel
theorem dL_tick_333 : decode cL_tick 333 = .ok (.iadd, 1) := by decide +kernel
theorem dL_tick_334 : decode cL_tick 334 = .ok (.iload 7, 2) := by decide +kernel
theorem dL_tick_336 : decode cL_tick 336 = .ok (.ifCond .eq 8, 3) := by decide +kernel
theorem dL_tick_339 : decode cL_tick 339 = .ok (.iload 6, 2) := by decide +kernel
theorem dL_tick_341 : decode cL_tick 341 = .ok (.goto 4, 3) := by decide +kernel
theorem dL_tick_344 : decode cL_tick 344 = .ok (.iconst (-1), 1) := by decide +kernel
theorem dL_tick_345 : decode cL_tick 345 = .ok (.iastore, 1) := by decide +kernel
theorem dL_tick_346 : decode cL_tick 346 = .ok (.iload 7, 2) := by decide +kernel
theorem dL_tick_348 : decode cL_tick 348 = .ok (.ifCond .eq 107, 3) := by decide +kernel
theorem dL_tick_351 : decode cL_tick 351 = .ok (.aload_n 2, 1) := by decide +kernel
theorem dL_tick_352 : decode cL_tick 352 = .ok (.bipush 20, 2) := by decide +kernel
theorem dL_tick_354 : decode cL_tick 354 = .ok (.iload 4, 2) := by decide +kernel
theorem dL_tick_356 : decode cL_tick 356 = .ok (.iadd, 1) := by decide +kernel
theorem dL_tick_357 : decode cL_tick 357 = .ok (.iaload, 1) := by decide +kernel
theorem dL_tick_358 : decode cL_tick 358 = .ok (.aload_n 0, 1) := by decide +kernel
theorem dL_tick_359 : decode cL_tick 359 = .ok (.bipush 7, 2) := by decide +kernel
theorem dL_tick_361 : decode cL_tick 361 = .ok (.iaload, 1) := by decide +kernel
theorem dL_tick_362 : decode cL_tick 362 = .ok (.if_icmp .lt 93, 3) := by decide +kernel
theorem dL_tick_365 : decode cL_tick 365 = .ok (.aload_n 0, 1) := by decide +kernel
theorem dL_tick_366 : decode cL_tick 366 = .ok (.iconst 3, 1) := by decide +kernel
theorem dL_tick_367 : decode cL_tick 367 = .ok (.dup2, 1) := by decide +kernel
theorem dL_tick_368 : decode cL_tick 368 = .ok (.iaload, 1) := by decide +kernel
theorem dL_tick_369 : decode cL_tick 369 = .ok (.iconst 1, 1) := by decide +kernel
theorem dL_tick_370 : decode cL_tick 370 = .ok (.iadd, 1) := by decide +kernel
theorem dL_tick_371 : decode cL_tick 371 = .ok (.iastore, 1) := by decide +kernel
theorem dL_tick_372 : decode cL_tick 372 = .ok (.aload_n 0, 1) := by decide +kernel
theorem dL_tick_373 : decode cL_tick 373 = .ok (.iconst 4, 1) := by decide +kernel
theorem dL_tick_374 : decode cL_tick 374 = .ok (.dup2, 1) := by decide +kernel
theorem dL_tick_375 : decode cL_tick 375 = .ok (.iaload, 1) := by decide +kernel
theorem dL_tick_376 : decode cL_tick 376 = .ok (.aload_n 2, 1) := by decide +kernel
theorem dL_tick_377 : decode cL_tick 377 = .ok (.bipush 24, 2) := by decide +kernel
theorem dL_tick_379 : decode cL_tick 379 = .ok (.iload 4, 2) := by decide +kernel
theorem dL_tick_381 : decode cL_tick 381 = .ok (.iadd, 1) := by decide +kernel
theorem dL_tick_382 : decode cL_tick 382 = .ok (.iaload, 1) := by decide +kernel
theorem dL_tick_383 : decode cL_tick 383 = .ok (.iload 6, 2) := by decide +kernel
theorem dL_tick_385 : decode cL_tick 385 = .ok (.if_icmp .ne 23, 3) := by decide +kernel
theorem dL_tick_388 : decode cL_tick 388 = .ok (.aload_n 0, 1) := by decide +kernel
theorem dL_tick_389 : decode cL_tick 389 = .ok (.iconst 2, 1) := by decide +kernel
theorem dL_tick_390 : decode cL_tick 390 = .ok (.iaload, 1) := by decide +kernel
theorem dL_tick_391 : decode cL_tick 391 = .ok (.aload_n 2, 1) := by decide +kernel
theorem dL_tick_392 : decode cL_tick 392 = .ok (.bipush 28, 2) := by decide +kernel
theorem dL_tick_394 : decode cL_tick 394 = .ok (.iload 4, 2) := by decide +kernel
theorem dL_tick_396 : decode cL_tick 396 = .ok (.iadd, 1) := by decide +kernel
theorem dL_tick_397 : decode cL_tick 397 = .ok (.iaload, 1) := by decide +kernel
theorem dL_tick_398 : decode cL_tick 398 = .ok (.isub, 1) := by decide +kernel
theorem dL_tick_399 : decode cL_tick 399 = .ok (.bipush 6, 2) := by decide +kernel
theorem dL_tick_401 : decode cL_tick 401 = .ok (.if_icmp .ge 7, 3) := by decide +kernel
theorem dL_tick_404 : decode cL_tick 404 = .ok (.iconst 1, 1) := by decide +kernel
theorem dL_tick_405 : decode cL_tick 405 = .ok (.goto 4, 3) := by decide +kernel
theorem dL_tick_408 : decode cL_tick 408 = .ok (.iconst 0, 1) := by decide +kernel
theorem dL_tick_409 : decode cL_tick 409 = .ok (.iadd, 1) := by decide +kernel
theorem dL_tick_410 : decode cL_tick 410 = .ok (.iastore, 1) := by decide +kernel
theorem dL_tick_411 : decode cL_tick 411 = .ok (.aload_n 2, 1) := by decide +kernel
theorem dL_tick_412 : decode cL_tick 412 = .ok (.bipush 24, 2) := by decide +kernel
theorem dL_tick_414 : decode cL_tick 414 = .ok (.iload 4, 2) := by decide +kernel
theorem dL_tick_416 : decode cL_tick 416 = .ok (.iadd, 1) := by decide +kernel
theorem dL_tick_417 : decode cL_tick 417 = .ok (.iload 5, 2) := by decide +kernel
theorem dL_tick_419 : decode cL_tick 419 = .ok (.iastore, 1) := by decide +kernel
theorem dL_tick_420 : decode cL_tick 420 = .ok (.aload_n 2, 1) := by decide +kernel
theorem dL_tick_421 : decode cL_tick 421 = .ok (.bipush 28, 2) := by decide +kernel
theorem dL_tick_423 : decode cL_tick 423 = .ok (.iload 4, 2) := by decide +kernel
theorem dL_tick_425 : decode cL_tick 425 = .ok (.iadd, 1) := by decide +kernel
theorem dL_tick_426 : decode cL_tick 426 = .ok (.aload_n 0, 1) := by decide +kernel
theorem dL_tick_427 : decode cL_tick 427 = .ok (.iconst 2, 1) := by decide +kernel
theorem dL_tick_428 : decode cL_tick 428 = .ok (.iaload, 1) := by decide +kernel
theorem dL_tick_429 : decode cL_tick 429 = .ok (.iastore, 1) := by decide +kernel
theorem dL_tick_430 : decode cL_tick 430 = .ok (.aload_n 2, 1) := by decide +kernel
theorem dL_tick_431 : decode cL_tick 431 = .ok (.bipush 12, 2) := by decide +kernel
theorem dL_tick_433 : decode cL_tick 433 = .ok (.iload 4, 2) := by decide +kernel
theorem dL_tick_435 : decode cL_tick 435 = .ok (.iadd, 1) := by decide +kernel
theorem dL_tick_436 : decode cL_tick 436 = .ok (.iload 6, 2) := by decide +kernel
theorem dL_tick_438 : decode cL_tick 438 = .ok (.iastore, 1) := by decide +kernel
theorem dL_tick_439 : decode cL_tick 439 = .ok (.aload_n 2, 1) := by decide +kernel
theorem dL_tick_440 : decode cL_tick 440 = .ok (.bipush 16, 2) := by decide +kernel
theorem dL_tick_442 : decode cL_tick 442 = .ok (.iload 4, 2) := by decide +kernel
theorem dL_tick_444 : decode cL_tick 444 = .ok (.iadd, 1) := by decide +kernel
theorem dL_tick_445 : decode cL_tick 445 = .ok (.iconst (-1), 1) := by decide +kernel
theorem dL_tick_446 : decode cL_tick 446 = .ok (.iastore, 1) := by decide +kernel
theorem dL_tick_447 : decode cL_tick 447 = .ok (.aload_n 2, 1) := by decide +kernel
theorem dL_tick_448 : decode cL_tick 448 = .ok (.bipush 20, 2) := by decide +kernel
theorem dL_tick_450 : decode cL_tick 450 = .ok (.iload 4, 2) := by decide +kernel
theorem dL_tick_452 : decode cL_tick 452 = .ok (.iadd, 1) := by decide +kernel
theorem dL_tick_453 : decode cL_tick 453 = .ok (.iconst 0, 1) := by decide +kernel
theorem dL_tick_454 : decode cL_tick 454 = .ok (.iastore, 1) := by decide +kernel
theorem dL_tick_455 : decode cL_tick 455 = .ok (.iinc 4 1, 3) := by decide +kernel
theorem dL_tick_458 : decode cL_tick 458 = .ok (.goto (-436), 3) := by decide +kernel
theorem dL_tick_461 : decode cL_tick 461 = .ok (.return_, 1) := by decide +kernel
