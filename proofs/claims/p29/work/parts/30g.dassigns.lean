set_option maxRecDepth 20000 in
theorem ggL_assigns_L_qualities : GoodIn wsL_assigns wsL_qualities := goodIn_r _ [5, 6, 7, 4, 8, 9, 10, 11] (by decide +kernel) (by decide +kernel)
set_option maxRecDepth 20000 in
theorem gL_assigns_L_qualities : GoodIn wsL_assigns (va_wsS RL 19 yL_qualities wsL_qualities) := goodIn_app (goodIn_of _ (by decide +kernel)) ggL_assigns_L_qualities
set_option maxRecDepth 20000 in
theorem ggL_assigns_L_of : GoodIn wsL_assigns wsL_of := goodIn_ca (goodIn_r _ [14, 15, 16, 17, 18, 19, 20, 21, 22, 23, 24, 25, 26, 27, 28, 29, 30, 31, 32, 33, 34, 35, 36, 37, 38, 39, 40, 41, 42, 43, 44, 45, 46, 47, 48, 49, 50, 51, 52, 53, 54, 55, 56, 57, 58, 59, 60, 61, 62, 63, 64, 65, 66, 67, 68, 69, 70, 71, 72, 73, 74, 75, 76, 77, 78, 79, 80, 81, 82, 83, 84, 85, 86, 87, 88, 89, 90, 91, 92, 93, 94, 95, 96, 97, 98, 99, 100, 101, 102, 103, 104, 105, 106, 107, 108, 109, 110, 111, 112, 113, 114, 115, 116, 117, 118, 119, 120, 121, 122, 123, 124, 125, 126, 127, 128, 129, 130, 131, 132, 133, 134, 135, 136, 137, 138, 139, 140, 141, 142, 143, 144, 145, 146, 147, 156, 157, 158, 159, 160, 161, 162, 163, 164, 165, 166, 167, 168, 169, 170, 171, 172, 173, 174, 175, 176, 177, 178, 179, 180, 181, 182, 183, 184, 185, 186, 187, 188] (by decide +kernel) (by decide +kernel)) (goodIn_sub (fun _ h => List.mem_cons_of_mem _ (List.mem_append_right _ h)) (by decide +kernel))
set_option maxRecDepth 20000 in
theorem gL_assigns_L_of : GoodIn wsL_assigns (va_wsS RL 120 yL_of wsL_of) := goodIn_app (goodIn_of _ (by decide +kernel)) ggL_assigns_L_of
set_option maxRecDepth 20000 in
theorem ggL_assigns_X2_mostServed : GoodIn wsL_assigns wsX2_mostServed := goodIn_r _ [151, 107, 108, 111, 112, 113, 114, 115, 116, 117, 118, 119, 120, 121, 122, 123, 124, 125, 126, 127, 128, 53, 54, 37, 55, 56, 57, 58, 59, 60, 61, 62, 63, 64, 65, 66, 67, 68, 69, 70, 71, 35, 36, 38, 39, 40, 41, 42, 43, 44, 45, 46, 72, 73, 74, 75, 76, 77, 129, 130, 131, 132, 133, 134, 135, 136, 137, 138, 139, 140, 141, 142, 143, 144, 145, 146, 147, 156, 157, 158, 159, 160, 161, 162, 163, 164, 165, 166, 167, 168, 182, 183, 184, 185, 186, 187, 188, 169, 170, 171, 172, 173, 174, 175, 176, 177, 178, 179, 180, 181] (by decide +kernel) (by decide +kernel)
set_option maxRecDepth 20000 in
theorem gL_assigns_X2_mostServed : GoodIn wsL_assigns (wsV RL 145 RX2 yX2_mostServed wsX2_mostServed) := goodIn_app (goodIn_of _ (by decide +kernel)) ggL_assigns_X2_mostServed
set_option maxRecDepth 20000 in
theorem ggL_assigns_X2_mostDemand : GoodIn wsL_assigns wsX2_mostDemand := goodIn_r _ [155, 107, 108, 111, 112, 113, 114, 115, 116, 117, 118, 119, 120, 121, 122, 123, 124, 125, 126, 127, 128, 53, 54, 37, 55, 56, 57, 58, 59, 60, 61, 62, 63, 64, 65, 66, 67, 68, 69, 70, 71, 35, 36, 38, 39, 40, 41, 42, 43, 44, 45, 46, 72, 73, 74, 75, 76, 77, 129, 130, 131, 132, 133, 134, 135, 136, 137, 138, 139, 140, 141, 142, 143, 144, 145, 146, 147, 156, 157, 158, 159, 160, 161, 162, 163, 164, 165, 166, 167, 168, 182, 183, 184, 185, 186, 187, 188, 169, 170, 171, 172, 173, 174, 175, 176, 177, 178, 179, 180, 181] (by decide +kernel) (by decide +kernel)
set_option maxRecDepth 20000 in
theorem gL_assigns_X2_mostDemand : GoodIn wsL_assigns (wsV RL 148 RX2 yX2_mostDemand wsX2_mostDemand) := goodIn_app (goodIn_of _ (by decide +kernel)) ggL_assigns_X2_mostDemand
theorem dL_assigns_0 : decode cL_assigns 0 = .ok (.bipush 16, 2) := by decide +kernel
theorem dL_assigns_2 : decode cL_assigns 2 = .ok (.newarray .int, 2) := by decide +kernel
theorem dL_assigns_4 : decode cL_assigns 4 = .ok (.astore 4, 2) := by decide +kernel
theorem dL_assigns_6 : decode cL_assigns 6 = .ok (.iconst 4, 1) := by decide +kernel
theorem dL_assigns_7 : decode cL_assigns 7 = .ok (.newarray .int, 2) := by decide +kernel
theorem dL_assigns_9 : decode cL_assigns 9 = .ok (.astore 5, 2) := by decide +kernel
theorem dL_assigns_11 : decode cL_assigns 11 = .ok (.iconst 4, 1) := by decide +kernel
theorem dL_assigns_12 : decode cL_assigns 12 = .ok (.newarray .int, 2) := by decide +kernel
theorem dL_assigns_14 : decode cL_assigns 14 = .ok (.astore 6, 2) := by decide +kernel
theorem dL_assigns_16 : decode cL_assigns 16 = .ok (.aload_n 1, 1) := by decide +kernel
theorem dL_assigns_17 : decode cL_assigns 17 = .ok (.aload_n 2, 1) := by decide +kernel
theorem dL_assigns_18 : decode cL_assigns 18 = .ok (.aload_n 3, 1) := by decide +kernel
theorem dL_assigns_19 : decode cL_assigns 19 = .ok (.aload 4, 2) := by decide +kernel
theorem dL_assigns_21 : decode cL_assigns 21 = .ok (.invokestatic 19, 3) := by decide +kernel
theorem dL_assigns_24 : decode cL_assigns 24 = .ok (.iconst 1, 1) := by decide +kernel
theorem dL_assigns_25 : decode cL_assigns 25 = .ok (.istore 7, 2) := by decide +kernel
theorem dL_assigns_27 : decode cL_assigns 27 = .ok (.iconst 0, 1) := by decide +kernel
theorem dL_assigns_28 : decode cL_assigns 28 = .ok (.istore 8, 2) := by decide +kernel
theorem dL_assigns_30 : decode cL_assigns 30 = .ok (.iload 8, 2) := by decide +kernel
theorem dL_assigns_32 : decode cL_assigns 32 = .ok (.aload_n 1, 1) := by decide +kernel
theorem dL_assigns_33 : decode cL_assigns 33 = .ok (.iconst 1, 1) := by decide +kernel
theorem dL_assigns_34 : decode cL_assigns 34 = .ok (.iaload, 1) := by decide +kernel
theorem dL_assigns_35 : decode cL_assigns 35 = .ok (.if_icmp .ge 21, 3) := by decide +kernel
theorem dL_assigns_38 : decode cL_assigns 38 = .ok (.iload 7, 2) := by decide +kernel
theorem dL_assigns_40 : decode cL_assigns 40 = .ok (.iconst 5, 1) := by decide +kernel
theorem dL_assigns_41 : decode cL_assigns 41 = .ok (.imul, 1) := by decide +kernel
theorem dL_assigns_42 : decode cL_assigns 42 = .ok (.istore 7, 2) := by decide +kernel
theorem dL_assigns_44 : decode cL_assigns 44 = .ok (.aload 5, 2) := by decide +kernel
theorem dL_assigns_46 : decode cL_assigns 46 = .ok (.iload 8, 2) := by decide +kernel
theorem dL_assigns_48 : decode cL_assigns 48 = .ok (.iconst 4, 1) := by decide +kernel
theorem dL_assigns_49 : decode cL_assigns 49 = .ok (.iastore, 1) := by decide +kernel
theorem dL_assigns_50 : decode cL_assigns 50 = .ok (.iinc 8 1, 3) := by decide +kernel
theorem dL_assigns_53 : decode cL_assigns 53 = .ok (.goto (-23), 3) := by decide +kernel
theorem dL_assigns_56 : decode cL_assigns 56 = .ok (.iconst 0, 1) := by decide +kernel
theorem dL_assigns_57 : decode cL_assigns 57 = .ok (.istore 8, 2) := by decide +kernel
theorem dL_assigns_59 : decode cL_assigns 59 = .ok (.iconst 0, 1) := by decide +kernel
theorem dL_assigns_60 : decode cL_assigns 60 = .ok (.istore 9, 2) := by decide +kernel
theorem dL_assigns_62 : decode cL_assigns 62 = .ok (.iconst 0, 1) := by decide +kernel
theorem dL_assigns_63 : decode cL_assigns 63 = .ok (.istore 10, 2) := by decide +kernel
theorem dL_assigns_65 : decode cL_assigns 65 = .ok (.iconst 0, 1) := by decide +kernel
theorem dL_assigns_66 : decode cL_assigns 66 = .ok (.istore 11, 2) := by decide +kernel
theorem dL_assigns_68 : decode cL_assigns 68 = .ok (.iload 11, 2) := by decide +kernel
theorem dL_assigns_70 : decode cL_assigns 70 = .ok (.iload 7, 2) := by decide +kernel
theorem dL_assigns_72 : decode cL_assigns 72 = .ok (.if_icmp .ge 360, 3) := by decide +kernel
theorem dL_assigns_75 : decode cL_assigns 75 = .ok (.iload 11, 2) := by decide +kernel
theorem dL_assigns_77 : decode cL_assigns 77 = .ok (.istore 12, 2) := by decide +kernel
theorem dL_assigns_79 : decode cL_assigns 79 = .ok (.iconst 0, 1) := by decide +kernel
theorem dL_assigns_80 : decode cL_assigns 80 = .ok (.istore 13, 2) := by decide +kernel
theorem dL_assigns_82 : decode cL_assigns 82 = .ok (.iconst 0, 1) := by decide +kernel
theorem dL_assigns_83 : decode cL_assigns 83 = .ok (.istore 14, 2) := by decide +kernel
theorem dL_assigns_85 : decode cL_assigns 85 = .ok (.iconst 0, 1) := by decide +kernel
theorem dL_assigns_86 : decode cL_assigns 86 = .ok (.istore 15, 2) := by decide +kernel
theorem dL_assigns_88 : decode cL_assigns 88 = .ok (.iconst 1, 1) := by decide +kernel
theorem dL_assigns_89 : decode cL_assigns 89 = .ok (.istore 16, 2) := by decide +kernel
theorem dL_assigns_91 : decode cL_assigns 91 = .ok (.iconst 0, 1) := by decide +kernel
theorem dL_assigns_92 : decode cL_assigns 92 = .ok (.istore 17, 2) := by decide +kernel
theorem dL_assigns_94 : decode cL_assigns 94 = .ok (.iload 17, 2) := by decide +kernel
theorem dL_assigns_96 : decode cL_assigns 96 = .ok (.aload_n 1, 1) := by decide +kernel
theorem dL_assigns_97 : decode cL_assigns 97 = .ok (.iconst 1, 1) := by decide +kernel
theorem dL_assigns_98 : decode cL_assigns 98 = .ok (.iaload, 1) := by decide +kernel
theorem dL_assigns_99 : decode cL_assigns 99 = .ok (.if_icmp .ge 175, 3) := by decide +kernel
theorem dL_assigns_102 : decode cL_assigns 102 = .ok (.aload 6, 2) := by decide +kernel
theorem dL_assigns_104 : decode cL_assigns 104 = .ok (.iload 17, 2) := by decide +kernel
theorem dL_assigns_106 : decode cL_assigns 106 = .ok (.iload 12, 2) := by decide +kernel
theorem dL_assigns_108 : decode cL_assigns 108 = .ok (.iconst 5, 1) := by decide +kernel
theorem dL_assigns_109 : decode cL_assigns 109 = .ok (.irem, 1) := by decide +kernel
theorem dL_assigns_110 : decode cL_assigns 110 = .ok (.iastore, 1) := by decide +kernel
theorem dL_assigns_111 : decode cL_assigns 111 = .ok (.iload 12, 2) := by decide +kernel
theorem dL_assigns_113 : decode cL_assigns 113 = .ok (.iconst 5, 1) := by decide +kernel
theorem dL_assigns_114 : decode cL_assigns 114 = .ok (.idiv, 1) := by decide +kernel
theorem dL_assigns_115 : decode cL_assigns 115 = .ok (.istore 12, 2) := by decide +kernel
theorem dL_assigns_117 : decode cL_assigns 117 = .ok (.aload 6, 2) := by decide +kernel
theorem dL_assigns_119 : decode cL_assigns 119 = .ok (.iload 17, 2) := by decide +kernel
theorem dL_assigns_121 : decode cL_assigns 121 = .ok (.iaload, 1) := by decide +kernel
theorem dL_assigns_122 : decode cL_assigns 122 = .ok (.iconst 4, 1) := by decide +kernel
theorem dL_assigns_123 : decode cL_assigns 123 = .ok (.if_icmp .ge 145, 3) := by decide +kernel
theorem dL_assigns_126 : decode cL_assigns 126 = .ok (.aload 6, 2) := by decide +kernel
theorem dL_assigns_128 : decode cL_assigns 128 = .ok (.iload 17, 2) := by decide +kernel
theorem dL_assigns_130 : decode cL_assigns 130 = .ok (.iaload, 1) := by decide +kernel
theorem dL_assigns_131 : decode cL_assigns 131 = .ok (.istore 18, 2) := by decide +kernel
theorem dL_assigns_133 : decode cL_assigns 133 = .ok (.iconst 0, 1) := by decide +kernel
theorem dL_assigns_134 : decode cL_assigns 134 = .ok (.istore 19, 2) := by decide +kernel
theorem dL_assigns_136 : decode cL_assigns 136 = .ok (.iconst 0, 1) := by decide +kernel
theorem dL_assigns_137 : decode cL_assigns 137 = .ok (.istore 20, 2) := by decide +kernel
theorem dL_assigns_139 : decode cL_assigns 139 = .ok (.iload 20, 2) := by decide +kernel
theorem dL_assigns_141 : decode cL_assigns 141 = .ok (.iload 17, 2) := by decide +kernel
theorem dL_assigns_143 : decode cL_assigns 143 = .ok (.if_icmp .gt 35, 3) := by decide +kernel
theorem dL_assigns_146 : decode cL_assigns 146 = .ok (.iload 19, 2) := by decide +kernel
theorem dL_assigns_148 : decode cL_assigns 148 = .ok (.aload 6, 2) := by decide +kernel
theorem dL_assigns_150 : decode cL_assigns 150 = .ok (.iload 20, 2) := by decide +kernel
theorem dL_assigns_152 : decode cL_assigns 152 = .ok (.iaload, 1) := by decide +kernel
theorem dL_assigns_153 : decode cL_assigns 153 = .ok (.iload 18, 2) := by decide +kernel
theorem dL_assigns_155 : decode cL_assigns 155 = .ok (.if_icmp .ne 13, 3) := by decide +kernel
theorem dL_assigns_158 : decode cL_assigns 158 = .ok (.aload_n 3, 1) := by decide +kernel
theorem dL_assigns_159 : decode cL_assigns 159 = .ok (.bipush 8, 2) := by decide +kernel
theorem dL_assigns_161 : decode cL_assigns 161 = .ok (.iload 20, 2) := by decide +kernel
theorem dL_assigns_163 : decode cL_assigns 163 = .ok (.iadd, 1) := by decide +kernel
theorem dL_assigns_164 : decode cL_assigns 164 = .ok (.iaload, 1) := by decide +kernel
theorem dL_assigns_165 : decode cL_assigns 165 = .ok (.goto 4, 3) := by decide +kernel
theorem dL_assigns_168 : decode cL_assigns 168 = .ok (.iconst 0, 1) := by decide +kernel
theorem dL_assigns_169 : decode cL_assigns 169 = .ok (.iadd, 1) := by decide +kernel
theorem dL_assigns_170 : decode cL_assigns 170 = .ok (.istore 19, 2) := by decide +kernel
theorem dL_assigns_172 : decode cL_assigns 172 = .ok (.iinc 20 1, 3) := by decide +kernel
theorem dL_assigns_175 : decode cL_assigns 175 = .ok (.goto (-36), 3) := by decide +kernel
theorem dL_assigns_178 : decode cL_assigns 178 = .ok (.iload 16, 2) := by decide +kernel
theorem dL_assigns_180 : decode cL_assigns 180 = .ok (.ifCond .eq 55, 3) := by decide +kernel
theorem dL_assigns_183 : decode cL_assigns 183 = .ok (.iload 18, 2) := by decide +kernel
theorem dL_assigns_185 : decode cL_assigns 185 = .ok (.aload_n 1, 1) := by decide +kernel
theorem dL_assigns_186 : decode cL_assigns 186 = .ok (.iconst 0, 1) := by decide +kernel
theorem dL_assigns_187 : decode cL_assigns 187 = .ok (.iaload, 1) := by decide +kernel
theorem dL_assigns_188 : decode cL_assigns 188 = .ok (.if_icmp .ge 47, 3) := by decide +kernel
theorem dL_assigns_191 : decode cL_assigns 191 = .ok (.aload_n 2, 1) := by decide +kernel
theorem dL_assigns_192 : decode cL_assigns 192 = .ok (.bipush 16, 2) := by decide +kernel
theorem dL_assigns_194 : decode cL_assigns 194 = .ok (.iload 18, 2) := by decide +kernel
theorem dL_assigns_196 : decode cL_assigns 196 = .ok (.iadd, 1) := by decide +kernel
theorem dL_assigns_197 : decode cL_assigns 197 = .ok (.iaload, 1) := by decide +kernel
theorem dL_assigns_198 : decode cL_assigns 198 = .ok (.iconst 1, 1) := by decide +kernel
theorem dL_assigns_199 : decode cL_assigns 199 = .ok (.if_icmp .ne 36, 3) := by decide +kernel
theorem dL_assigns_202 : decode cL_assigns 202 = .ok (.aload 4, 2) := by decide +kernel
theorem dL_assigns_204 : decode cL_assigns 204 = .ok (.iconst 4, 1) := by decide +kernel
theorem dL_assigns_205 : decode cL_assigns 205 = .ok (.iload 18, 2) := by decide +kernel
theorem dL_assigns_207 : decode cL_assigns 207 = .ok (.imul, 1) := by decide +kernel
theorem dL_assigns_208 : decode cL_assigns 208 = .ok (.iload 17, 2) := by decide +kernel
theorem dL_assigns_210 : decode cL_assigns 210 = .ok (.iadd, 1) := by decide +kernel
theorem dL_assigns_211 : decode cL_assigns 211 = .ok (.iaload, 1) := by decide +kernel
theorem dL_assigns_212 : decode cL_assigns 212 = .ok (.aload_n 1, 1) := by decide +kernel
theorem dL_assigns_213 : decode cL_assigns 213 = .ok (.bipush 8, 2) := by decide +kernel
theorem dL_assigns_215 : decode cL_assigns 215 = .ok (.iaload, 1) := by decide +kernel
theorem dL_assigns_216 : decode cL_assigns 216 = .ok (.if_icmp .lt 19, 3) := by decide +kernel
theorem dL_assigns_219 : decode cL_assigns 219 = .ok (.iload 19, 2) := by decide +kernel
theorem dL_assigns_221 : decode cL_assigns 221 = .ok (.aload_n 2, 1) := by decide +kernel
theorem dL_assigns_222 : decode cL_assigns 222 = .ok (.bipush 12, 2) := by decide +kernel
theorem dL_assigns_224 : decode cL_assigns 224 = .ok (.iload 18, 2) := by decide +kernel
theorem dL_assigns_226 : decode cL_assigns 226 = .ok (.iadd, 1) := by decide +kernel
theorem dL_assigns_227 : decode cL_assigns 227 = .ok (.iaload, 1) := by decide +kernel
theorem dL_assigns_228 : decode cL_assigns 228 = .ok (.if_icmp .gt 7, 3) := by decide +kernel
theorem dL_assigns_231 : decode cL_assigns 231 = .ok (.iconst 1, 1) := by decide +kernel
theorem dL_assigns_232 : decode cL_assigns 232 = .ok (.goto 4, 3) := by decide +kernel
theorem dL_assigns_235 : decode cL_assigns 235 = .ok (.iconst 0, 1) := by decide +kernel
theorem dL_assigns_236 : decode cL_assigns 236 = .ok (.istore 16, 2) := by decide +kernel
theorem dL_assigns_238 : decode cL_assigns 238 = .ok (.iinc 13 1, 3) := by decide +kernel
theorem dL_assigns_241 : decode cL_assigns 241 = .ok (.iload 14, 2) := by decide +kernel
theorem dL_assigns_243 : decode cL_assigns 243 = .ok (.aload_n 3, 1) := by decide +kernel
theorem dL_assigns_244 : decode cL_assigns 244 = .ok (.bipush 8, 2) := by decide +kernel
theorem dL_assigns_246 : decode cL_assigns 246 = .ok (.iload 17, 2) := by decide +kernel
theorem dL_assigns_248 : decode cL_assigns 248 = .ok (.iadd, 1) := by decide +kernel
theorem dL_assigns_249 : decode cL_assigns 249 = .ok (.iaload, 1) := by decide +kernel
theorem dL_assigns_250 : decode cL_assigns 250 = .ok (.iadd, 1) := by decide +kernel
theorem dL_assigns_251 : decode cL_assigns 251 = .ok (.istore 14, 2) := by decide +kernel
theorem dL_assigns_253 : decode cL_assigns 253 = .ok (.iload 15, 2) := by decide +kernel
theorem dL_assigns_255 : decode cL_assigns 255 = .ok (.aload 4, 2) := by decide +kernel
theorem dL_assigns_257 : decode cL_assigns 257 = .ok (.iconst 4, 1) := by decide +kernel
theorem dL_assigns_258 : decode cL_assigns 258 = .ok (.iload 18, 2) := by decide +kernel
theorem dL_assigns_260 : decode cL_assigns 260 = .ok (.imul, 1) := by decide +kernel
theorem dL_assigns_261 : decode cL_assigns 261 = .ok (.iload 17, 2) := by decide +kernel
theorem dL_assigns_263 : decode cL_assigns 263 = .ok (.iadd, 1) := by decide +kernel
theorem dL_assigns_264 : decode cL_assigns 264 = .ok (.iaload, 1) := by decide +kernel
theorem dL_assigns_265 : decode cL_assigns 265 = .ok (.iadd, 1) := by decide +kernel
theorem dL_assigns_266 : decode cL_assigns 266 = .ok (.istore 15, 2) := by decide +kernel
theorem dL_assigns_268 : decode cL_assigns 268 = .ok (.iinc 17 1, 3) := by decide +kernel
theorem dL_assigns_271 : decode cL_assigns 271 = .ok (.goto (-177), 3) := by decide +kernel
theorem dL_assigns_274 : decode cL_assigns 274 = .ok (.iconst 0, 1) := by decide +kernel
theorem dL_assigns_275 : decode cL_assigns 275 = .ok (.istore 17, 2) := by decide +kernel
theorem dL_assigns_277 : decode cL_assigns 277 = .ok (.iload 17, 2) := by decide +kernel
theorem dL_assigns_279 : decode cL_assigns 279 = .ok (.aload_n 1, 1) := by decide +kernel
theorem dL_assigns_280 : decode cL_assigns 280 = .ok (.iconst 1, 1) := by decide +kernel
theorem dL_assigns_281 : decode cL_assigns 281 = .ok (.iaload, 1) := by decide +kernel
theorem dL_assigns_282 : decode cL_assigns 282 = .ok (.if_icmp .ge 22, 3) := by decide +kernel
theorem dL_assigns_285 : decode cL_assigns 285 = .ok (.aload 6, 2) := by decide +kernel
theorem dL_assigns_287 : decode cL_assigns 287 = .ok (.iload 17, 2) := by decide +kernel
theorem dL_assigns_289 : decode cL_assigns 289 = .ok (.iaload, 1) := by decide +kernel
theorem dL_assigns_290 : decode cL_assigns 290 = .ok (.aload 5, 2) := by decide +kernel
theorem dL_assigns_292 : decode cL_assigns 292 = .ok (.iload 17, 2) := by decide +kernel
theorem dL_assigns_294 : decode cL_assigns 294 = .ok (.iaload, 1) := by decide +kernel
theorem dL_assigns_295 : decode cL_assigns 295 = .ok (.if_icmp .ne 9, 3) := by decide +kernel
theorem dL_assigns_298 : decode cL_assigns 298 = .ok (.iinc 17 1, 3) := by decide +kernel
theorem dL_assigns_301 : decode cL_assigns 301 = .ok (.goto (-24), 3) := by decide +kernel
theorem dL_assigns_304 : decode cL_assigns 304 = .ok (.iload 17, 2) := by decide +kernel
theorem dL_assigns_306 : decode cL_assigns 306 = .ok (.aload_n 1, 1) := by decide +kernel
theorem dL_assigns_307 : decode cL_assigns 307 = .ok (.iconst 1, 1) := by decide +kernel
theorem dL_assigns_308 : decode cL_assigns 308 = .ok (.iaload, 1) := by decide +kernel
theorem dL_assigns_309 : decode cL_assigns 309 = .ok (.if_icmp .ge 20, 3) := by decide +kernel
theorem dL_assigns_312 : decode cL_assigns 312 = .ok (.aload 6, 2) := by decide +kernel
theorem dL_assigns_314 : decode cL_assigns 314 = .ok (.iload 17, 2) := by decide +kernel
theorem dL_assigns_316 : decode cL_assigns 316 = .ok (.iaload, 1) := by decide +kernel
theorem dL_assigns_317 : decode cL_assigns 317 = .ok (.aload 5, 2) := by decide +kernel
theorem dL_assigns_319 : decode cL_assigns 319 = .ok (.iload 17, 2) := by decide +kernel
theorem dL_assigns_321 : decode cL_assigns 321 = .ok (.iaload, 1) := by decide +kernel
theorem dL_assigns_322 : decode cL_assigns 322 = .ok (.if_icmp .ge 7, 3) := by decide +kernel
theorem dL_assigns_325 : decode cL_assigns 325 = .ok (.iconst 1, 1) := by decide +kernel
theorem dL_assigns_326 : decode cL_assigns 326 = .ok (.goto 4, 3) := by decide +kernel
theorem dL_assigns_329 : decode cL_assigns 329 = .ok (.iconst 0, 1) := by decide +kernel
theorem dL_assigns_330 : decode cL_assigns 330 = .ok (.istore 18, 2) := by decide +kernel
theorem dL_assigns_332 : decode cL_assigns 332 = .ok (.iload 16, 2) := by decide +kernel
theorem dL_assigns_334 : decode cL_assigns 334 = .ok (.ifCond .eq 15, 3) := by decide +kernel
theorem dL_assigns_337 : decode cL_assigns 337 = .ok (.iload 14, 2) := by decide +kernel
theorem dL_assigns_339 : decode cL_assigns 339 = .ok (.iload 9, 2) := by decide +kernel
theorem dL_assigns_341 : decode cL_assigns 341 = .ok (.if_icmp .le 8, 3) := by decide +kernel
theorem dL_assigns_344 : decode cL_assigns 344 = .ok (.iload 14, 2) := by decide +kernel
theorem dL_assigns_346 : decode cL_assigns 346 = .ok (.goto 5, 3) := by decide +kernel
theorem dL_assigns_349 : decode cL_assigns 349 = .ok (.iload 9, 2) := by decide +kernel
theorem dL_assigns_351 : decode cL_assigns 351 = .ok (.istore 9, 2) := by decide +kernel
theorem dL_assigns_353 : decode cL_assigns 353 = .ok (.iload 16, 2) := by decide +kernel
theorem dL_assigns_355 : decode cL_assigns 355 = .ok (.ifCond .eq 71, 3) := by decide +kernel
theorem dL_assigns_358 : decode cL_assigns 358 = .ok (.iload 13, 2) := by decide +kernel
theorem dL_assigns_360 : decode cL_assigns 360 = .ok (.iload 8, 2) := by decide +kernel
theorem dL_assigns_362 : decode cL_assigns 362 = .ok (.if_icmp .gt 29, 3) := by decide +kernel
theorem dL_assigns_365 : decode cL_assigns 365 = .ok (.iload 13, 2) := by decide +kernel
theorem dL_assigns_367 : decode cL_assigns 367 = .ok (.iload 8, 2) := by decide +kernel
theorem dL_assigns_369 : decode cL_assigns 369 = .ok (.if_icmp .ne 57, 3) := by decide +kernel
theorem dL_assigns_372 : decode cL_assigns 372 = .ok (.iload 15, 2) := by decide +kernel
theorem dL_assigns_374 : decode cL_assigns 374 = .ok (.iload 10, 2) := by decide +kernel
theorem dL_assigns_376 : decode cL_assigns 376 = .ok (.if_icmp .gt 15, 3) := by decide +kernel
theorem dL_assigns_379 : decode cL_assigns 379 = .ok (.iload 15, 2) := by decide +kernel
theorem dL_assigns_381 : decode cL_assigns 381 = .ok (.iload 10, 2) := by decide +kernel
theorem dL_assigns_383 : decode cL_assigns 383 = .ok (.if_icmp .ne 43, 3) := by decide +kernel
theorem dL_assigns_386 : decode cL_assigns 386 = .ok (.iload 18, 2) := by decide +kernel
theorem dL_assigns_388 : decode cL_assigns 388 = .ok (.ifCond .eq 38, 3) := by decide +kernel
theorem dL_assigns_391 : decode cL_assigns 391 = .ok (.iload 13, 2) := by decide +kernel
theorem dL_assigns_393 : decode cL_assigns 393 = .ok (.istore 8, 2) := by decide +kernel
theorem dL_assigns_395 : decode cL_assigns 395 = .ok (.iload 15, 2) := by decide +kernel
theorem dL_assigns_397 : decode cL_assigns 397 = .ok (.istore 10, 2) := by decide +kernel
theorem dL_assigns_399 : decode cL_assigns 399 = .ok (.iconst 0, 1) := by decide +kernel
theorem dL_assigns_400 : decode cL_assigns 400 = .ok (.istore 19, 2) := by decide +kernel
theorem dL_assigns_402 : decode cL_assigns 402 = .ok (.iload 19, 2) := by decide +kernel
theorem dL_assigns_404 : decode cL_assigns 404 = .ok (.aload_n 1, 1) := by decide +kernel
theorem dL_assigns_405 : decode cL_assigns 405 = .ok (.iconst 1, 1) := by decide +kernel
theorem dL_assigns_406 : decode cL_assigns 406 = .ok (.iaload, 1) := by decide +kernel
theorem dL_assigns_407 : decode cL_assigns 407 = .ok (.if_icmp .ge 19, 3) := by decide +kernel
theorem dL_assigns_410 : decode cL_assigns 410 = .ok (.aload 5, 2) := by decide +kernel
theorem dL_assigns_412 : decode cL_assigns 412 = .ok (.iload 19, 2) := by decide +kernel
theorem dL_assigns_414 : decode cL_assigns 414 = .ok (.aload 6, 2) := by decide +kernel
theorem dL_assigns_416 : decode cL_assigns 416 = .ok (.iload 19, 2) := by decide +kernel
theorem dL_assigns_418 : decode cL_assigns 418 = .ok (.iaload, 1) := by decide +kernel
theorem dL_assigns_419 : decode cL_assigns 419 = .ok (.iastore, 1) := by decide +kernel
theorem dL_assigns_420 : decode cL_assigns 420 = .ok (.iinc 19 1, 3) := by decide +kernel
theorem dL_assigns_423 : decode cL_assigns 423 = .ok (.goto (-21), 3) := by decide +kernel
theorem dL_assigns_426 : decode cL_assigns 426 = .ok (.iinc 11 1, 3) := by decide +kernel
theorem dL_assigns_429 : decode cL_assigns 429 = .ok (.goto (-361), 3) := by decide +kernel
theorem dL_assigns_432 : decode cL_assigns 432 = .ok (.iconst 0, 1) := by decide +kernel
theorem dL_assigns_433 : decode cL_assigns 433 = .ok (.istore 11, 2) := by decide +kernel
theorem dL_assigns_435 : decode cL_assigns 435 = .ok (.iload 11, 2) := by decide +kernel
theorem dL_assigns_437 : decode cL_assigns 437 = .ok (.aload_n 1, 1) := by decide +kernel
theorem dL_assigns_438 : decode cL_assigns 438 = .ok (.iconst 1, 1) := by decide +kernel
theorem dL_assigns_439 : decode cL_assigns 439 = .ok (.iaload, 1) := by decide +kernel
theorem dL_assigns_440 : decode cL_assigns 440 = .ok (.if_icmp .gt 54, 3) := by decide +kernel
theorem dL_assigns_443 : decode cL_assigns 443 = .ok (.aload_n 0, 1) := by decide +kernel
theorem dL_assigns_444 : decode cL_assigns 444 = .ok (.bipush 7, 2) := by decide +kernel
theorem dL_assigns_446 : decode cL_assigns 446 = .ok (.iload 11, 2) := by decide +kernel
theorem dL_assigns_448 : decode cL_assigns 448 = .ok (.iconst 0, 1) := by decide +kernel
theorem dL_assigns_449 : decode cL_assigns 449 = .ok (.invokestatic 120, 3) := by decide +kernel
theorem dL_assigns_452 : decode cL_assigns 452 = .ok (.iload 11, 2) := by decide +kernel
theorem dL_assigns_454 : decode cL_assigns 454 = .ok (.aload_n 1, 1) := by decide +kernel
theorem dL_assigns_455 : decode cL_assigns 455 = .ok (.iconst 1, 1) := by decide +kernel
theorem dL_assigns_456 : decode cL_assigns 456 = .ok (.iaload, 1) := by decide +kernel
theorem dL_assigns_457 : decode cL_assigns 457 = .ok (.if_icmp .ne 8, 3) := by decide +kernel
theorem dL_assigns_460 : decode cL_assigns 460 = .ok (.bipush (-101), 2) := by decide +kernel
theorem dL_assigns_462 : decode cL_assigns 462 = .ok (.goto 21, 3) := by decide +kernel
theorem dL_assigns_465 : decode cL_assigns 465 = .ok (.aload 5, 2) := by decide +kernel
theorem dL_assigns_467 : decode cL_assigns 467 = .ok (.iload 11, 2) := by decide +kernel
theorem dL_assigns_469 : decode cL_assigns 469 = .ok (.iaload, 1) := by decide +kernel
theorem dL_assigns_470 : decode cL_assigns 470 = .ok (.iconst 4, 1) := by decide +kernel
theorem dL_assigns_471 : decode cL_assigns 471 = .ok (.if_icmp .ne 7, 3) := by decide +kernel
theorem dL_assigns_474 : decode cL_assigns 474 = .ok (.iconst (-1), 1) := by decide +kernel
theorem dL_assigns_475 : decode cL_assigns 475 = .ok (.goto 8, 3) := by decide +kernel
theorem dL_assigns_478 : decode cL_assigns 478 = .ok (.aload 5, 2) := by decide +kernel
theorem dL_assigns_480 : decode cL_assigns 480 = .ok (.iload 11, 2) := by decide +kernel
theorem dL_assigns_482 : decode cL_assigns 482 = .ok (.iaload, 1) := by decide +kernel
theorem dL_assigns_483 : decode cL_assigns 483 = .ok (.if_icmp .eq 5, 3) := by decide +kernel
theorem dL_assigns_486 : decode cL_assigns 486 = .ok (.iconst 0, 1) := by decide +kernel
theorem dL_assigns_487 : decode cL_assigns 487 = .ok (.ireturn, 1) := by decide +kernel
theorem dL_assigns_488 : decode cL_assigns 488 = .ok (.iinc 11 1, 3) := by decide +kernel
theorem dL_assigns_491 : decode cL_assigns 491 = .ok (.goto (-56), 3) := by decide +kernel
theorem dL_assigns_494 : decode cL_assigns 494 = .ok (.aload_n 0, 1) := by decide +kernel
theorem dL_assigns_495 : decode cL_assigns 495 = .ok (.invokevirtual 145, 3) := by decide +kernel
theorem dL_assigns_498 : decode cL_assigns 498 = .ok (.iload 8, 2) := by decide +kernel
theorem dL_assigns_500 : decode cL_assigns 500 = .ok (.if_icmp .ne 16, 3) := by decide +kernel
theorem dL_assigns_503 : decode cL_assigns 503 = .ok (.aload_n 0, 1) := by decide +kernel
theorem dL_assigns_504 : decode cL_assigns 504 = .ok (.invokevirtual 148, 3) := by decide +kernel
theorem dL_assigns_507 : decode cL_assigns 507 = .ok (.iload 9, 2) := by decide +kernel
theorem dL_assigns_509 : decode cL_assigns 509 = .ok (.if_icmp .ne 7, 3) := by decide +kernel
theorem dL_assigns_512 : decode cL_assigns 512 = .ok (.iconst 1, 1) := by decide +kernel
theorem dL_assigns_513 : decode cL_assigns 513 = .ok (.goto 4, 3) := by decide +kernel
theorem dL_assigns_516 : decode cL_assigns 516 = .ok (.iconst 0, 1) := by decide +kernel
theorem dL_assigns_517 : decode cL_assigns 517 = .ok (.ireturn, 1) := by decide +kernel
