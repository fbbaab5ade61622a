set_option maxRecDepth 20000 in
theorem ggL_tells_L_qualities : GoodIn wsL_tells wsL_qualities := goodIn_r _ [5, 6, 7, 4, 8, 9, 10, 11] (by decide +kernel) (by decide +kernel)
set_option maxRecDepth 20000 in
theorem gL_tells_L_qualities : GoodIn wsL_tells (va_wsS RL 19 yL_qualities wsL_qualities) := goodIn_app (goodIn_of _ (by decide +kernel)) ggL_tells_L_qualities
set_option maxRecDepth 20000 in
theorem ggL_tells_L_of : GoodIn wsL_tells wsL_of := goodIn_ca (goodIn_r _ [14, 15, 16, 17, 18, 19, 20, 21, 22, 23, 24, 25, 26, 27, 28, 29, 30, 31, 32, 33, 34, 35, 36, 37, 38, 39, 40, 41, 42, 43, 44, 45, 46, 47, 48, 49, 50, 51, 52, 53, 54, 55, 56, 57, 58, 59, 60, 61, 62, 63, 64, 65, 66, 67, 68, 69, 70, 71, 72, 73, 74, 75, 76, 77, 78, 79, 80, 81, 82, 83, 84, 85, 86, 87, 88, 89, 90, 91, 92, 93, 94, 95, 96, 97, 98, 99, 100, 101, 102, 103, 104, 105, 106, 107, 108, 109, 110, 111, 112, 113, 114, 115, 116, 117, 118, 119, 120, 121, 122, 123, 124, 125, 126, 127, 128, 129, 130, 131, 132, 133, 134, 135, 136, 137, 138, 139, 140, 141, 142, 143, 144, 145, 146, 147, 180, 181, 182, 183, 184, 185, 186, 187, 188, 189, 190, 191, 192, 193, 194, 195, 196, 197, 198, 199, 200, 201, 202, 203, 204, 205, 206, 207, 208, 209, 210, 211, 212] (by decide +kernel) (by decide +kernel)) (goodIn_sub (fun _ h => List.mem_cons_of_mem _ (List.mem_append_right _ h)) (by decide +kernel))
set_option maxRecDepth 20000 in
theorem gL_tells_L_of : GoodIn wsL_tells (va_wsS RL 120 yL_of wsL_of) := goodIn_app (goodIn_of _ (by decide +kernel)) ggL_tells_L_of
set_option maxRecDepth 20000 in
theorem ggL_tells_L_signal : GoodIn wsL_tells wsL_signal := goodIn_r _ [8] (by decide +kernel) (by decide +kernel)
set_option maxRecDepth 20000 in
theorem gL_tells_L_signal : GoodIn wsL_tells (va_wsS RL 9 yL_signal wsL_signal) := goodIn_app (goodIn_of _ (by decide +kernel)) ggL_tells_L_signal
set_option maxRecDepth 20000 in
theorem ggL_tells_L_load : GoodIn wsL_tells wsL_load := goodIn_r _ [11] (by decide +kernel) (by decide +kernel)
set_option maxRecDepth 20000 in
theorem gL_tells_L_load : GoodIn wsL_tells (va_wsS RL 15 yL_load wsL_load) := goodIn_app (goodIn_of _ (by decide +kernel)) ggL_tells_L_load
set_option maxRecDepth 20000 in
theorem ggL_tells_X2_unserved : GoodIn wsL_tells wsX2_unserved := goodIn_r _ [151, 21, 33, 92, 180, 181, 182, 183, 184, 185, 186, 187, 188, 189, 190, 191, 192, 193, 194, 195, 196, 197, 198, 199, 200, 201, 202, 203, 204, 205] (by decide +kernel) (by decide +kernel)
set_option maxRecDepth 20000 in
theorem gL_tells_X2_unserved : GoodIn wsL_tells (wsV RL 123 RX2 yX2_unserved wsX2_unserved) := goodIn_app (goodIn_of _ (by decide +kernel)) ggL_tells_X2_unserved
set_option maxRecDepth 20000 in
theorem ggL_tells_X2_ticks : GoodIn wsL_tells wsX2_ticks := goodIn_r _ [155, 156, 180, 181, 182, 183, 184, 185, 186, 187, 188, 189, 190, 191, 192] (by decide +kernel) (by decide +kernel)
set_option maxRecDepth 20000 in
theorem gL_tells_X2_ticks : GoodIn wsL_tells (wsV RL 127 RX2 yX2_ticks wsX2_ticks) := goodIn_app (goodIn_of _ (by decide +kernel)) ggL_tells_X2_ticks
set_option maxRecDepth 20000 in
theorem ggL_tells_X2_handovers : GoodIn wsL_tells wsX2_handovers := goodIn_r _ [160, 161, 180, 181, 182, 183, 184, 185, 186, 187, 188, 189, 190, 191, 192] (by decide +kernel) (by decide +kernel)
set_option maxRecDepth 20000 in
theorem gL_tells_X2_handovers : GoodIn wsL_tells (wsV RL 130 RX2 yX2_handovers wsX2_handovers) := goodIn_app (goodIn_of _ (by decide +kernel)) ggL_tells_X2_handovers
set_option maxRecDepth 20000 in
theorem ggL_tells_X2_rings : GoodIn wsL_tells wsX2_rings := goodIn_r _ [165, 166, 180, 181, 182, 183, 184, 185, 186, 187, 188, 189, 190, 191, 192] (by decide +kernel) (by decide +kernel)
set_option maxRecDepth 20000 in
theorem gL_tells_X2_rings : GoodIn wsL_tells (wsV RL 133 RX2 yX2_rings wsX2_rings) := goodIn_app (goodIn_of _ (by decide +kernel)) ggL_tells_X2_rings
set_option maxRecDepth 20000 in
theorem ggL_tells_X2_losses : GoodIn wsL_tells wsX2_losses := goodIn_r _ [170, 171, 180, 181, 182, 183, 184, 185, 186, 187, 188, 189, 190, 191, 192] (by decide +kernel) (by decide +kernel)
set_option maxRecDepth 20000 in
theorem gL_tells_X2_losses : GoodIn wsL_tells (wsV RL 136 RX2 yX2_losses wsX2_losses) := goodIn_app (goodIn_of _ (by decide +kernel)) ggL_tells_X2_losses
set_option maxRecDepth 20000 in
theorem ggL_tells_X2_cells : GoodIn wsL_tells wsX2_cells := goodIn_r _ [175, 21, 28, 180, 181, 182, 183, 184, 185, 186, 187, 188, 189, 190, 191, 192, 193, 194, 195, 196, 197, 198, 199, 200, 201, 202, 203, 204, 205] (by decide +kernel) (by decide +kernel)
set_option maxRecDepth 20000 in
theorem gL_tells_X2_cells : GoodIn wsL_tells (wsV RL 139 RX2 yX2_cells wsX2_cells) := goodIn_app (goodIn_of _ (by decide +kernel)) ggL_tells_X2_cells
set_option maxRecDepth 20000 in
theorem ggL_tells_X2_walkers : GoodIn wsL_tells wsX2_walkers := goodIn_r _ [179, 21, 33, 180, 181, 182, 183, 184, 185, 186, 187, 188, 189, 190, 191, 192, 193, 194, 195, 196, 197, 198, 199, 200, 201, 202, 203, 204, 205] (by decide +kernel) (by decide +kernel)
set_option maxRecDepth 20000 in
theorem gL_tells_X2_walkers : GoodIn wsL_tells (wsV RL 142 RX2 yX2_walkers wsX2_walkers) := goodIn_app (goodIn_of _ (by decide +kernel)) ggL_tells_X2_walkers
theorem dL_tells_0 : decode cL_tells 0 = .ok (.bipush 16, 2) := by decide +kernel
theorem dL_tells_2 : decode cL_tells 2 = .ok (.newarray .int, 2) := by decide +kernel
theorem dL_tells_4 : decode cL_tells 4 = .ok (.astore 4, 2) := by decide +kernel
theorem dL_tells_6 : decode cL_tells 6 = .ok (.aload_n 1, 1) := by decide +kernel
theorem dL_tells_7 : decode cL_tells 7 = .ok (.aload_n 2, 1) := by decide +kernel
theorem dL_tells_8 : decode cL_tells 8 = .ok (.aload_n 3, 1) := by decide +kernel
theorem dL_tells_9 : decode cL_tells 9 = .ok (.aload 4, 2) := by decide +kernel
theorem dL_tells_11 : decode cL_tells 11 = .ok (.invokestatic 19, 3) := by decide +kernel
theorem dL_tells_14 : decode cL_tells 14 = .ok (.iconst 0, 1) := by decide +kernel
theorem dL_tells_15 : decode cL_tells 15 = .ok (.istore 5, 2) := by decide +kernel
theorem dL_tells_17 : decode cL_tells 17 = .ok (.iconst 0, 1) := by decide +kernel
theorem dL_tells_18 : decode cL_tells 18 = .ok (.istore 6, 2) := by decide +kernel
theorem dL_tells_20 : decode cL_tells 20 = .ok (.iload 6, 2) := by decide +kernel
theorem dL_tells_22 : decode cL_tells 22 = .ok (.aload_n 1, 1) := by decide +kernel
theorem dL_tells_23 : decode cL_tells 23 = .ok (.iconst 0, 1) := by decide +kernel
theorem dL_tells_24 : decode cL_tells 24 = .ok (.iaload, 1) := by decide +kernel
theorem dL_tells_25 : decode cL_tells 25 = .ok (.if_icmp .gt 195, 3) := by decide +kernel
theorem dL_tells_28 : decode cL_tells 28 = .ok (.iload 6, 2) := by decide +kernel
theorem dL_tells_30 : decode cL_tells 30 = .ok (.aload_n 1, 1) := by decide +kernel
theorem dL_tells_31 : decode cL_tells 31 = .ok (.iconst 0, 1) := by decide +kernel
theorem dL_tells_32 : decode cL_tells 32 = .ok (.iaload, 1) := by decide +kernel
theorem dL_tells_33 : decode cL_tells 33 = .ok (.if_icmp .ge 7, 3) := by decide +kernel
theorem dL_tells_36 : decode cL_tells 36 = .ok (.iconst 1, 1) := by decide +kernel
theorem dL_tells_37 : decode cL_tells 37 = .ok (.goto 4, 3) := by decide +kernel
theorem dL_tells_40 : decode cL_tells 40 = .ok (.iconst 0, 1) := by decide +kernel
theorem dL_tells_41 : decode cL_tells 41 = .ok (.istore 7, 2) := by decide +kernel
theorem dL_tells_43 : decode cL_tells 43 = .ok (.iconst 0, 1) := by decide +kernel
theorem dL_tells_44 : decode cL_tells 44 = .ok (.istore 8, 2) := by decide +kernel
theorem dL_tells_46 : decode cL_tells 46 = .ok (.iload 8, 2) := by decide +kernel
theorem dL_tells_48 : decode cL_tells 48 = .ok (.aload_n 1, 1) := by decide +kernel
theorem dL_tells_49 : decode cL_tells 49 = .ok (.iconst 1, 1) := by decide +kernel
theorem dL_tells_50 : decode cL_tells 50 = .ok (.iaload, 1) := by decide +kernel
theorem dL_tells_51 : decode cL_tells 51 = .ok (.if_icmp .gt 94, 3) := by decide +kernel
theorem dL_tells_54 : decode cL_tells 54 = .ok (.iload 7, 2) := by decide +kernel
theorem dL_tells_56 : decode cL_tells 56 = .ok (.ifCond .eq 15, 3) := by decide +kernel
theorem dL_tells_59 : decode cL_tells 59 = .ok (.iload 8, 2) := by decide +kernel
theorem dL_tells_61 : decode cL_tells 61 = .ok (.aload_n 1, 1) := by decide +kernel
theorem dL_tells_62 : decode cL_tells 62 = .ok (.iconst 1, 1) := by decide +kernel
theorem dL_tells_63 : decode cL_tells 63 = .ok (.iaload, 1) := by decide +kernel
theorem dL_tells_64 : decode cL_tells 64 = .ok (.if_icmp .ge 7, 3) := by decide +kernel
theorem dL_tells_67 : decode cL_tells 67 = .ok (.iconst 1, 1) := by decide +kernel
theorem dL_tells_68 : decode cL_tells 68 = .ok (.goto 4, 3) := by decide +kernel
theorem dL_tells_71 : decode cL_tells 71 = .ok (.iconst 0, 1) := by decide +kernel
theorem dL_tells_72 : decode cL_tells 72 = .ok (.istore 9, 2) := by decide +kernel
theorem dL_tells_74 : decode cL_tells 74 = .ok (.aload_n 0, 1) := by decide +kernel
theorem dL_tells_75 : decode cL_tells 75 = .ok (.iconst 0, 1) := by decide +kernel
theorem dL_tells_76 : decode cL_tells 76 = .ok (.iload 6, 2) := by decide +kernel
theorem dL_tells_78 : decode cL_tells 78 = .ok (.iload 8, 2) := by decide +kernel
theorem dL_tells_80 : decode cL_tells 80 = .ok (.invokestatic 120, 3) := by decide +kernel
theorem dL_tells_83 : decode cL_tells 83 = .ok (.iload 9, 2) := by decide +kernel
theorem dL_tells_85 : decode cL_tells 85 = .ok (.ifCond .eq 15, 3) := by decide +kernel
theorem dL_tells_88 : decode cL_tells 88 = .ok (.aload_n 2, 1) := by decide +kernel
theorem dL_tells_89 : decode cL_tells 89 = .ok (.aload_n 3, 1) := by decide +kernel
theorem dL_tells_90 : decode cL_tells 90 = .ok (.iload 6, 2) := by decide +kernel
theorem dL_tells_92 : decode cL_tells 92 = .ok (.iload 8, 2) := by decide +kernel
theorem dL_tells_94 : decode cL_tells 94 = .ok (.invokestatic 9, 3) := by decide +kernel
theorem dL_tells_97 : decode cL_tells 97 = .ok (.goto 5, 3) := by decide +kernel
theorem dL_tells_100 : decode cL_tells 100 = .ok (.bipush (-101), 2) := by decide +kernel
theorem dL_tells_102 : decode cL_tells 102 = .ok (.if_icmp .ne 35, 3) := by decide +kernel
theorem dL_tells_105 : decode cL_tells 105 = .ok (.aload_n 0, 1) := by decide +kernel
theorem dL_tells_106 : decode cL_tells 106 = .ok (.iconst 1, 1) := by decide +kernel
theorem dL_tells_107 : decode cL_tells 107 = .ok (.iload 6, 2) := by decide +kernel
theorem dL_tells_109 : decode cL_tells 109 = .ok (.iload 8, 2) := by decide +kernel
theorem dL_tells_111 : decode cL_tells 111 = .ok (.invokestatic 120, 3) := by decide +kernel
theorem dL_tells_114 : decode cL_tells 114 = .ok (.iload 9, 2) := by decide +kernel
theorem dL_tells_116 : decode cL_tells 116 = .ok (.ifCond .eq 16, 3) := by decide +kernel
theorem dL_tells_119 : decode cL_tells 119 = .ok (.aload 4, 2) := by decide +kernel
theorem dL_tells_121 : decode cL_tells 121 = .ok (.iconst 4, 1) := by decide +kernel
theorem dL_tells_122 : decode cL_tells 122 = .ok (.iload 6, 2) := by decide +kernel
theorem dL_tells_124 : decode cL_tells 124 = .ok (.imul, 1) := by decide +kernel
theorem dL_tells_125 : decode cL_tells 125 = .ok (.iload 8, 2) := by decide +kernel
theorem dL_tells_127 : decode cL_tells 127 = .ok (.iadd, 1) := by decide +kernel
theorem dL_tells_128 : decode cL_tells 128 = .ok (.iaload, 1) := by decide +kernel
theorem dL_tells_129 : decode cL_tells 129 = .ok (.goto 5, 3) := by decide +kernel
theorem dL_tells_132 : decode cL_tells 132 = .ok (.bipush (-101), 2) := by decide +kernel
theorem dL_tells_134 : decode cL_tells 134 = .ok (.if_icmp .eq 5, 3) := by decide +kernel
theorem dL_tells_137 : decode cL_tells 137 = .ok (.iconst 0, 1) := by decide +kernel
theorem dL_tells_138 : decode cL_tells 138 = .ok (.ireturn, 1) := by decide +kernel
theorem dL_tells_139 : decode cL_tells 139 = .ok (.iinc 8 1, 3) := by decide +kernel
theorem dL_tells_142 : decode cL_tells 142 = .ok (.goto (-96), 3) := by decide +kernel
theorem dL_tells_145 : decode cL_tells 145 = .ok (.aload_n 0, 1) := by decide +kernel
theorem dL_tells_146 : decode cL_tells 146 = .ok (.iconst 2, 1) := by decide +kernel
theorem dL_tells_147 : decode cL_tells 147 = .ok (.iload 6, 2) := by decide +kernel
theorem dL_tells_149 : decode cL_tells 149 = .ok (.iconst 0, 1) := by decide +kernel
theorem dL_tells_150 : decode cL_tells 150 = .ok (.invokestatic 120, 3) := by decide +kernel
theorem dL_tells_153 : decode cL_tells 153 = .ok (.iload 7, 2) := by decide +kernel
theorem dL_tells_155 : decode cL_tells 155 = .ok (.ifCond .eq 13, 3) := by decide +kernel
theorem dL_tells_158 : decode cL_tells 158 = .ok (.aload_n 1, 1) := by decide +kernel
theorem dL_tells_159 : decode cL_tells 159 = .ok (.aload_n 3, 1) := by decide +kernel
theorem dL_tells_160 : decode cL_tells 160 = .ok (.iload 6, 2) := by decide +kernel
theorem dL_tells_162 : decode cL_tells 162 = .ok (.invokestatic 15, 3) := by decide +kernel
theorem dL_tells_165 : decode cL_tells 165 = .ok (.goto 5, 3) := by decide +kernel
theorem dL_tells_168 : decode cL_tells 168 = .ok (.bipush (-101), 2) := by decide +kernel
theorem dL_tells_170 : decode cL_tells 170 = .ok (.if_icmp .ne 42, 3) := by decide +kernel
theorem dL_tells_173 : decode cL_tells 173 = .ok (.aload_n 0, 1) := by decide +kernel
theorem dL_tells_174 : decode cL_tells 174 = .ok (.iconst 3, 1) := by decide +kernel
theorem dL_tells_175 : decode cL_tells 175 = .ok (.iload 6, 2) := by decide +kernel
theorem dL_tells_177 : decode cL_tells 177 = .ok (.iconst 0, 1) := by decide +kernel
theorem dL_tells_178 : decode cL_tells 178 = .ok (.invokestatic 120, 3) := by decide +kernel
theorem dL_tells_181 : decode cL_tells 181 = .ok (.iload 7, 2) := by decide +kernel
theorem dL_tells_183 : decode cL_tells 183 = .ok (.ifCond .eq 24, 3) := by decide +kernel
theorem dL_tells_186 : decode cL_tells 186 = .ok (.bipush 100, 2) := by decide +kernel
theorem dL_tells_188 : decode cL_tells 188 = .ok (.aload_n 1, 1) := by decide +kernel
theorem dL_tells_189 : decode cL_tells 189 = .ok (.aload_n 3, 1) := by decide +kernel
theorem dL_tells_190 : decode cL_tells 190 = .ok (.iload 6, 2) := by decide +kernel
theorem dL_tells_192 : decode cL_tells 192 = .ok (.invokestatic 15, 3) := by decide +kernel
theorem dL_tells_195 : decode cL_tells 195 = .ok (.imul, 1) := by decide +kernel
theorem dL_tells_196 : decode cL_tells 196 = .ok (.aload_n 2, 1) := by decide +kernel
theorem dL_tells_197 : decode cL_tells 197 = .ok (.bipush 12, 2) := by decide +kernel
theorem dL_tells_199 : decode cL_tells 199 = .ok (.iload 6, 2) := by decide +kernel
theorem dL_tells_201 : decode cL_tells 201 = .ok (.iadd, 1) := by decide +kernel
theorem dL_tells_202 : decode cL_tells 202 = .ok (.iaload, 1) := by decide +kernel
theorem dL_tells_203 : decode cL_tells 203 = .ok (.idiv, 1) := by decide +kernel
theorem dL_tells_204 : decode cL_tells 204 = .ok (.goto 5, 3) := by decide +kernel
theorem dL_tells_207 : decode cL_tells 207 = .ok (.bipush (-101), 2) := by decide +kernel
theorem dL_tells_209 : decode cL_tells 209 = .ok (.if_icmp .eq 5, 3) := by decide +kernel
theorem dL_tells_212 : decode cL_tells 212 = .ok (.iconst 0, 1) := by decide +kernel
theorem dL_tells_213 : decode cL_tells 213 = .ok (.ireturn, 1) := by decide +kernel
theorem dL_tells_214 : decode cL_tells 214 = .ok (.iinc 6 1, 3) := by decide +kernel
theorem dL_tells_217 : decode cL_tells 217 = .ok (.goto (-197), 3) := by decide +kernel
theorem dL_tells_220 : decode cL_tells 220 = .ok (.iconst 0, 1) := by decide +kernel
theorem dL_tells_221 : decode cL_tells 221 = .ok (.istore 6, 2) := by decide +kernel
theorem dL_tells_223 : decode cL_tells 223 = .ok (.iload 6, 2) := by decide +kernel
theorem dL_tells_225 : decode cL_tells 225 = .ok (.aload_n 1, 1) := by decide +kernel
theorem dL_tells_226 : decode cL_tells 226 = .ok (.iconst 1, 1) := by decide +kernel
theorem dL_tells_227 : decode cL_tells 227 = .ok (.iaload, 1) := by decide +kernel
theorem dL_tells_228 : decode cL_tells 228 = .ok (.if_icmp .gt 139, 3) := by decide +kernel
theorem dL_tells_231 : decode cL_tells 231 = .ok (.iload 6, 2) := by decide +kernel
theorem dL_tells_233 : decode cL_tells 233 = .ok (.aload_n 1, 1) := by decide +kernel
theorem dL_tells_234 : decode cL_tells 234 = .ok (.iconst 1, 1) := by decide +kernel
theorem dL_tells_235 : decode cL_tells 235 = .ok (.iaload, 1) := by decide +kernel
theorem dL_tells_236 : decode cL_tells 236 = .ok (.if_icmp .ge 7, 3) := by decide +kernel
theorem dL_tells_239 : decode cL_tells 239 = .ok (.iconst 1, 1) := by decide +kernel
theorem dL_tells_240 : decode cL_tells 240 = .ok (.goto 4, 3) := by decide +kernel
theorem dL_tells_243 : decode cL_tells 243 = .ok (.iconst 0, 1) := by decide +kernel
theorem dL_tells_244 : decode cL_tells 244 = .ok (.istore 7, 2) := by decide +kernel
theorem dL_tells_246 : decode cL_tells 246 = .ok (.iload 5, 2) := by decide +kernel
theorem dL_tells_248 : decode cL_tells 248 = .ok (.iload 7, 2) := by decide +kernel
theorem dL_tells_250 : decode cL_tells 250 = .ok (.ifCond .eq 20, 3) := by decide +kernel
theorem dL_tells_253 : decode cL_tells 253 = .ok (.aload_n 3, 1) := by decide +kernel
theorem dL_tells_254 : decode cL_tells 254 = .ok (.bipush 12, 2) := by decide +kernel
theorem dL_tells_256 : decode cL_tells 256 = .ok (.iload 6, 2) := by decide +kernel
theorem dL_tells_258 : decode cL_tells 258 = .ok (.iadd, 1) := by decide +kernel
theorem dL_tells_259 : decode cL_tells 259 = .ok (.iaload, 1) := by decide +kernel
theorem dL_tells_260 : decode cL_tells 260 = .ok (.ifCond .ge 10, 3) := by decide +kernel
theorem dL_tells_263 : decode cL_tells 263 = .ok (.iconst 1, 1) := by decide +kernel
theorem dL_tells_264 : decode cL_tells 264 = .ok (.iload 6, 2) := by decide +kernel
theorem dL_tells_266 : decode cL_tells 266 = .ok (.ishl, 1) := by decide +kernel
theorem dL_tells_267 : decode cL_tells 267 = .ok (.goto 4, 3) := by decide +kernel
theorem dL_tells_270 : decode cL_tells 270 = .ok (.iconst 0, 1) := by decide +kernel
theorem dL_tells_271 : decode cL_tells 271 = .ok (.ior, 1) := by decide +kernel
theorem dL_tells_272 : decode cL_tells 272 = .ok (.istore 5, 2) := by decide +kernel
theorem dL_tells_274 : decode cL_tells 274 = .ok (.aload_n 0, 1) := by decide +kernel
theorem dL_tells_275 : decode cL_tells 275 = .ok (.iconst 4, 1) := by decide +kernel
theorem dL_tells_276 : decode cL_tells 276 = .ok (.iload 6, 2) := by decide +kernel
theorem dL_tells_278 : decode cL_tells 278 = .ok (.iconst 0, 1) := by decide +kernel
theorem dL_tells_279 : decode cL_tells 279 = .ok (.invokestatic 120, 3) := by decide +kernel
theorem dL_tells_282 : decode cL_tells 282 = .ok (.iload 7, 2) := by decide +kernel
theorem dL_tells_284 : decode cL_tells 284 = .ok (.ifCond .eq 13, 3) := by decide +kernel
theorem dL_tells_287 : decode cL_tells 287 = .ok (.aload_n 3, 1) := by decide +kernel
theorem dL_tells_288 : decode cL_tells 288 = .ok (.bipush 12, 2) := by decide +kernel
theorem dL_tells_290 : decode cL_tells 290 = .ok (.iload 6, 2) := by decide +kernel
theorem dL_tells_292 : decode cL_tells 292 = .ok (.iadd, 1) := by decide +kernel
theorem dL_tells_293 : decode cL_tells 293 = .ok (.iaload, 1) := by decide +kernel
theorem dL_tells_294 : decode cL_tells 294 = .ok (.goto 5, 3) := by decide +kernel
theorem dL_tells_297 : decode cL_tells 297 = .ok (.bipush (-101), 2) := by decide +kernel
theorem dL_tells_299 : decode cL_tells 299 = .ok (.if_icmp .ne 60, 3) := by decide +kernel
theorem dL_tells_302 : decode cL_tells 302 = .ok (.aload_n 0, 1) := by decide +kernel
theorem dL_tells_303 : decode cL_tells 303 = .ok (.iconst 5, 1) := by decide +kernel
theorem dL_tells_304 : decode cL_tells 304 = .ok (.iload 6, 2) := by decide +kernel
theorem dL_tells_306 : decode cL_tells 306 = .ok (.iconst 0, 1) := by decide +kernel
theorem dL_tells_307 : decode cL_tells 307 = .ok (.invokestatic 120, 3) := by decide +kernel
theorem dL_tells_310 : decode cL_tells 310 = .ok (.iload 7, 2) := by decide +kernel
theorem dL_tells_312 : decode cL_tells 312 = .ok (.ifCond .eq 13, 3) := by decide +kernel
theorem dL_tells_315 : decode cL_tells 315 = .ok (.aload_n 3, 1) := by decide +kernel
theorem dL_tells_316 : decode cL_tells 316 = .ok (.bipush 16, 2) := by decide +kernel
theorem dL_tells_318 : decode cL_tells 318 = .ok (.iload 6, 2) := by decide +kernel
theorem dL_tells_320 : decode cL_tells 320 = .ok (.iadd, 1) := by decide +kernel
theorem dL_tells_321 : decode cL_tells 321 = .ok (.iaload, 1) := by decide +kernel
theorem dL_tells_322 : decode cL_tells 322 = .ok (.goto 5, 3) := by decide +kernel
theorem dL_tells_325 : decode cL_tells 325 = .ok (.bipush (-101), 2) := by decide +kernel
theorem dL_tells_327 : decode cL_tells 327 = .ok (.if_icmp .ne 32, 3) := by decide +kernel
theorem dL_tells_330 : decode cL_tells 330 = .ok (.aload_n 0, 1) := by decide +kernel
theorem dL_tells_331 : decode cL_tells 331 = .ok (.bipush 6, 2) := by decide +kernel
theorem dL_tells_333 : decode cL_tells 333 = .ok (.iload 6, 2) := by decide +kernel
theorem dL_tells_335 : decode cL_tells 335 = .ok (.iconst 0, 1) := by decide +kernel
theorem dL_tells_336 : decode cL_tells 336 = .ok (.invokestatic 120, 3) := by decide +kernel
theorem dL_tells_339 : decode cL_tells 339 = .ok (.iload 7, 2) := by decide +kernel
theorem dL_tells_341 : decode cL_tells 341 = .ok (.ifCond .eq 13, 3) := by decide +kernel
theorem dL_tells_344 : decode cL_tells 344 = .ok (.aload_n 3, 1) := by decide +kernel
theorem dL_tells_345 : decode cL_tells 345 = .ok (.bipush 20, 2) := by decide +kernel
theorem dL_tells_347 : decode cL_tells 347 = .ok (.iload 6, 2) := by decide +kernel
theorem dL_tells_349 : decode cL_tells 349 = .ok (.iadd, 1) := by decide +kernel
theorem dL_tells_350 : decode cL_tells 350 = .ok (.iaload, 1) := by decide +kernel
theorem dL_tells_351 : decode cL_tells 351 = .ok (.goto 5, 3) := by decide +kernel
theorem dL_tells_354 : decode cL_tells 354 = .ok (.bipush (-101), 2) := by decide +kernel
theorem dL_tells_356 : decode cL_tells 356 = .ok (.if_icmp .eq 5, 3) := by decide +kernel
theorem dL_tells_359 : decode cL_tells 359 = .ok (.iconst 0, 1) := by decide +kernel
theorem dL_tells_360 : decode cL_tells 360 = .ok (.ireturn, 1) := by decide +kernel
theorem dL_tells_361 : decode cL_tells 361 = .ok (.iinc 6 1, 3) := by decide +kernel
theorem dL_tells_364 : decode cL_tells 364 = .ok (.goto (-141), 3) := by decide +kernel
theorem dL_tells_367 : decode cL_tells 367 = .ok (.aload_n 0, 1) := by decide +kernel
theorem dL_tells_368 : decode cL_tells 368 = .ok (.invokevirtual 123, 3) := by decide +kernel
theorem dL_tells_371 : decode cL_tells 371 = .ok (.iload 5, 2) := by decide +kernel
theorem dL_tells_373 : decode cL_tells 373 = .ok (.if_icmp .ne 67, 3) := by decide +kernel
theorem dL_tells_376 : decode cL_tells 376 = .ok (.aload_n 0, 1) := by decide +kernel
theorem dL_tells_377 : decode cL_tells 377 = .ok (.invokevirtual 127, 3) := by decide +kernel
theorem dL_tells_380 : decode cL_tells 380 = .ok (.aload_n 1, 1) := by decide +kernel
theorem dL_tells_381 : decode cL_tells 381 = .ok (.iconst 2, 1) := by decide +kernel
theorem dL_tells_382 : decode cL_tells 382 = .ok (.iaload, 1) := by decide +kernel
theorem dL_tells_383 : decode cL_tells 383 = .ok (.if_icmp .ne 57, 3) := by decide +kernel
theorem dL_tells_386 : decode cL_tells 386 = .ok (.aload_n 0, 1) := by decide +kernel
theorem dL_tells_387 : decode cL_tells 387 = .ok (.invokevirtual 130, 3) := by decide +kernel
theorem dL_tells_390 : decode cL_tells 390 = .ok (.aload_n 1, 1) := by decide +kernel
theorem dL_tells_391 : decode cL_tells 391 = .ok (.iconst 3, 1) := by decide +kernel
theorem dL_tells_392 : decode cL_tells 392 = .ok (.iaload, 1) := by decide +kernel
theorem dL_tells_393 : decode cL_tells 393 = .ok (.if_icmp .ne 47, 3) := by decide +kernel
theorem dL_tells_396 : decode cL_tells 396 = .ok (.aload_n 0, 1) := by decide +kernel
theorem dL_tells_397 : decode cL_tells 397 = .ok (.invokevirtual 133, 3) := by decide +kernel
theorem dL_tells_400 : decode cL_tells 400 = .ok (.aload_n 1, 1) := by decide +kernel
theorem dL_tells_401 : decode cL_tells 401 = .ok (.iconst 4, 1) := by decide +kernel
theorem dL_tells_402 : decode cL_tells 402 = .ok (.iaload, 1) := by decide +kernel
theorem dL_tells_403 : decode cL_tells 403 = .ok (.if_icmp .ne 37, 3) := by decide +kernel
theorem dL_tells_406 : decode cL_tells 406 = .ok (.aload_n 0, 1) := by decide +kernel
theorem dL_tells_407 : decode cL_tells 407 = .ok (.invokevirtual 136, 3) := by decide +kernel
theorem dL_tells_410 : decode cL_tells 410 = .ok (.aload_n 1, 1) := by decide +kernel
theorem dL_tells_411 : decode cL_tells 411 = .ok (.iconst 5, 1) := by decide +kernel
theorem dL_tells_412 : decode cL_tells 412 = .ok (.iaload, 1) := by decide +kernel
theorem dL_tells_413 : decode cL_tells 413 = .ok (.if_icmp .ne 27, 3) := by decide +kernel
theorem dL_tells_416 : decode cL_tells 416 = .ok (.aload_n 0, 1) := by decide +kernel
theorem dL_tells_417 : decode cL_tells 417 = .ok (.invokevirtual 139, 3) := by decide +kernel
theorem dL_tells_420 : decode cL_tells 420 = .ok (.aload_n 1, 1) := by decide +kernel
theorem dL_tells_421 : decode cL_tells 421 = .ok (.iconst 0, 1) := by decide +kernel
theorem dL_tells_422 : decode cL_tells 422 = .ok (.iaload, 1) := by decide +kernel
theorem dL_tells_423 : decode cL_tells 423 = .ok (.if_icmp .ne 17, 3) := by decide +kernel
theorem dL_tells_426 : decode cL_tells 426 = .ok (.aload_n 0, 1) := by decide +kernel
theorem dL_tells_427 : decode cL_tells 427 = .ok (.invokevirtual 142, 3) := by decide +kernel
theorem dL_tells_430 : decode cL_tells 430 = .ok (.aload_n 1, 1) := by decide +kernel
theorem dL_tells_431 : decode cL_tells 431 = .ok (.iconst 1, 1) := by decide +kernel
theorem dL_tells_432 : decode cL_tells 432 = .ok (.iaload, 1) := by decide +kernel
theorem dL_tells_433 : decode cL_tells 433 = .ok (.if_icmp .ne 7, 3) := by decide +kernel
theorem dL_tells_436 : decode cL_tells 436 = .ok (.iconst 1, 1) := by decide +kernel
theorem dL_tells_437 : decode cL_tells 437 = .ok (.goto 4, 3) := by decide +kernel
theorem dL_tells_440 : decode cL_tells 440 = .ok (.iconst 0, 1) := by decide +kernel
theorem dL_tells_441 : decode cL_tells 441 = .ok (.ireturn, 1) := by decide +kernel
