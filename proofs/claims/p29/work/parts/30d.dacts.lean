set_option maxRecDepth 20000 in
theorem ggL_acts_L_place : GoodIn wsL_acts wsL_place := goodIn_r _ [6, 7, 8, 5, 9] (by decide +kernel) (by decide +kernel)
set_option maxRecDepth 20000 in
theorem gL_acts_L_place : GoodIn wsL_acts (va_wsS RL 89 yL_place wsL_place) := goodIn_app (goodIn_of _ (by decide +kernel)) ggL_acts_L_place
set_option maxRecDepth 20000 in
theorem ggL_acts_L_some : GoodIn wsL_acts wsL_some := goodIn_r _ [9] (by decide +kernel) (by decide +kernel)
set_option maxRecDepth 20000 in
theorem gL_acts_L_some : GoodIn wsL_acts (va_wsS RL 86 yL_some wsL_some) := goodIn_app (goodIn_of _ (by decide +kernel)) ggL_acts_L_some
set_option maxRecDepth 20000 in
theorem ggL_acts_L_built : GoodIn wsL_acts wsL_built := goodIn_ca (goodIn_ca (goodIn_r _ [12, 13, 14, 15, 16, 17, 18, 19, 20, 21, 22, 23, 24, 25, 26, 27, 28, 29, 30, 31, 32, 33, 34, 35, 36, 37, 38, 39, 200, 201, 202, 203, 204, 205, 206, 207, 208, 209, 210, 211, 212, 213, 214, 215, 216, 217, 218, 219, 220, 221, 222, 223, 224, 225] (by decide +kernel) (by decide +kernel)) (goodIn_sub (fun _ h => List.mem_cons_of_mem _ (List.mem_append_left _ (List.mem_append_left _ (List.mem_append_right _ h)))) (by decide +kernel))) (goodIn_sub (fun _ h => List.mem_cons_of_mem _ (List.mem_append_left _ (List.mem_append_right _ h))) (by decide +kernel))
set_option maxRecDepth 20000 in
theorem gL_acts_L_built : GoodIn wsL_acts (va_wsS RL 92 yL_built wsL_built) := goodIn_app (goodIn_of _ (by decide +kernel)) ggL_acts_L_built
set_option maxRecDepth 20000 in
theorem ggL_acts_L_came : GoodIn wsL_acts wsL_came := goodIn_ca (goodIn_ca (goodIn_r _ [42, 13, 14, 43, 44, 45, 18, 46, 20, 21, 22, 47, 48, 24, 25, 26, 27, 28, 49, 50, 51, 32, 52, 53, 54, 55, 56, 57, 58, 59, 60, 61, 62, 63, 200, 201, 202, 203, 204, 205, 206, 207, 208, 209, 210, 211, 212, 213, 214, 215, 216, 217, 218, 219, 220, 221, 222, 223, 224, 225] (by decide +kernel) (by decide +kernel)) (goodIn_sub (fun _ h => List.mem_cons_of_mem _ (List.mem_append_left _ (List.mem_append_left _ (List.mem_append_right _ h)))) (by decide +kernel))) (goodIn_sub (fun _ h => List.mem_cons_of_mem _ (List.mem_append_left _ (List.mem_append_right _ h))) (by decide +kernel))
set_option maxRecDepth 20000 in
theorem gL_acts_L_came : GoodIn wsL_acts (va_wsS RL 96 yL_came wsL_came) := goodIn_app (goodIn_of _ (by decide +kernel)) ggL_acts_L_came
set_option maxRecDepth 20000 in
theorem ggL_acts_L_turned : GoodIn wsL_acts wsL_turned := goodIn_ca (goodIn_r _ [66, 67, 68, 69, 70, 18, 71, 22, 72, 73, 74, 75, 76, 77, 78, 23, 79, 80, 81, 82, 47, 83, 58, 59, 60, 61, 62, 63, 200, 201, 202, 203, 204, 205, 206, 207, 208, 209, 210, 211, 212, 213, 214, 215, 216, 217, 218, 219, 220, 221, 222, 223, 224, 225] (by decide +kernel) (by decide +kernel)) (goodIn_sub (fun _ h => List.mem_cons_of_mem _ (List.mem_append_right _ h)) (by decide +kernel))
set_option maxRecDepth 20000 in
theorem gL_acts_L_turned : GoodIn wsL_acts (va_wsS RL 100 yL_turned wsL_turned) := goodIn_app (goodIn_of _ (by decide +kernel)) ggL_acts_L_turned
set_option maxRecDepth 20000 in
theorem ggL_acts_L_tuned : GoodIn wsL_acts wsL_tuned := goodIn_ca (goodIn_ca (goodIn_r _ [86, 67, 13, 87, 88, 89, 18, 90, 22, 91, 73, 74, 75, 76, 77, 78, 23, 24, 25, 26, 27, 28, 200, 201, 202, 203, 204, 205, 206, 207, 208, 209, 210, 211, 212, 213, 214, 215, 216, 217, 218, 219, 220, 221, 222, 223, 224, 225] (by decide +kernel) (by decide +kernel)) (goodIn_sub (fun _ h => List.mem_cons_of_mem _ (List.mem_append_right _ h)) (by decide +kernel))) (goodIn_sub (fun _ h => List.mem_cons_of_mem _ (List.mem_append_left _ (List.mem_append_right _ h))) (by decide +kernel))
set_option maxRecDepth 20000 in
theorem gL_acts_L_tuned : GoodIn wsL_acts (va_wsS RL 104 yL_tuned wsL_tuned) := goodIn_app (goodIn_of _ (by decide +kernel)) ggL_acts_L_tuned
set_option maxRecDepth 20000 in
theorem ggL_acts_L_set : GoodIn wsL_acts wsL_set := goodIn_ca (goodIn_r _ [94, 13, 95, 96, 97, 18, 98, 99, 24, 25, 26, 27, 28, 100, 101, 102, 103, 104, 105, 106, 107, 108, 109, 110, 111, 112, 113, 114, 115, 116, 117, 118, 119, 22, 47, 83, 120, 121, 122, 123, 32, 124, 34, 125, 53, 126, 127, 128, 129, 130, 38, 131, 132, 133, 134, 57, 56, 135, 136, 137, 138, 35, 54, 139, 140, 141, 142, 36, 55, 143, 144, 145, 146, 39, 37, 147, 148, 149, 150, 151, 152, 153, 154, 155, 156, 157, 158, 159, 160, 161, 162, 163, 48, 58, 59, 60, 61, 62, 63, 164, 165, 166, 167, 168, 169, 170, 171, 172, 173, 200, 201, 202, 203, 204, 205, 206, 207, 208, 209, 210, 211, 212, 213, 214, 215, 216, 217, 218, 219, 220, 221, 222, 223, 224, 225] (by decide +kernel) (by decide +kernel)) (goodIn_sub (fun _ h => List.mem_cons_of_mem _ (List.mem_append_left _ (List.mem_append_right _ h))) (by decide +kernel))
set_option maxRecDepth 20000 in
theorem gL_acts_L_set : GoodIn wsL_acts (va_wsS RL 108 yL_set wsL_set) := goodIn_app (goodIn_of _ (by decide +kernel)) ggL_acts_L_set
set_option maxRecDepth 20000 in
theorem ggL_acts_L_moved : GoodIn wsL_acts wsL_moved := goodIn_ca (goodIn_ca (goodIn_r _ [176, 67, 13, 177, 178, 179, 18, 180, 22, 181, 182, 183, 184, 185, 186, 77, 78, 47, 24, 25, 26, 27, 28, 200, 201, 202, 203, 204, 205, 206, 207, 208, 209, 210, 211, 212, 213, 214, 215, 216, 217, 218, 219, 220, 221, 222, 223, 224, 225] (by decide +kernel) (by decide +kernel)) (goodIn_sub (fun _ h => List.mem_cons_of_mem _ (List.mem_append_right _ h)) (by decide +kernel))) (goodIn_sub (fun _ h => List.mem_cons_of_mem _ (List.mem_append_left _ (List.mem_append_right _ h))) (by decide +kernel))
set_option maxRecDepth 20000 in
theorem gL_acts_L_moved : GoodIn wsL_acts (va_wsS RL 114 yL_moved wsL_moved) := goodIn_app (goodIn_of _ (by decide +kernel)) ggL_acts_L_moved
set_option maxRecDepth 20000 in
theorem ggL_acts_L_tick : GoodIn wsL_acts wsL_tick := goodIn_r _ [189, 190, 191, 192, 5, 193, 194, 195, 196, 197, 198, 199] (by decide +kernel) (by decide +kernel)
set_option maxRecDepth 20000 in
theorem gL_acts_L_tick : GoodIn wsL_acts (va_wsS RL 117 yL_tick wsL_tick) := goodIn_app (goodIn_of _ (by decide +kernel)) ggL_acts_L_tick
theorem dL_acts_0 : decode cL_acts 0 = .ok (.iload_n 1, 1) := by decide +kernel
theorem dL_acts_1 : decode cL_acts 1 = .ok (.ifCond .ne 196, 3) := by decide +kernel
theorem dL_acts_4 : decode cL_acts 4 = .ok (.iload_n 2, 1) := by decide +kernel
theorem dL_acts_5 : decode cL_acts 5 = .ok (.invokestatic 89, 3) := by decide +kernel
theorem dL_acts_8 : decode cL_acts 8 = .ok (.istore 6, 2) := by decide +kernel
theorem dL_acts_10 : decode cL_acts 10 = .ok (.iload_n 2, 1) := by decide +kernel
theorem dL_acts_11 : decode cL_acts 11 = .ok (.iconst 5, 1) := by decide +kernel
theorem dL_acts_12 : decode cL_acts 12 = .ok (.ishr, 1) := by decide +kernel
theorem dL_acts_13 : decode cL_acts 13 = .ok (.invokestatic 89, 3) := by decide +kernel
theorem dL_acts_16 : decode cL_acts 16 = .ok (.istore 7, 2) := by decide +kernel
theorem dL_acts_18 : decode cL_acts 18 = .ok (.iload_n 2, 1) := by decide +kernel
theorem dL_acts_19 : decode cL_acts 19 = .ok (.bipush 7, 2) := by decide +kernel
theorem dL_acts_21 : decode cL_acts 21 = .ok (.ishr, 1) := by decide +kernel
theorem dL_acts_22 : decode cL_acts 22 = .ok (.bipush 40, 2) := by decide +kernel
theorem dL_acts_24 : decode cL_acts 24 = .ok (.invokestatic 86, 3) := by decide +kernel
theorem dL_acts_27 : decode cL_acts 27 = .ok (.ifCond .ne 7, 3) := by decide +kernel
theorem dL_acts_30 : decode cL_acts 30 = .ok (.iconst 3, 1) := by decide +kernel
theorem dL_acts_31 : decode cL_acts 31 = .ok (.goto 11, 3) := by decide +kernel
theorem dL_acts_34 : decode cL_acts 34 = .ok (.iload_n 2, 1) := by decide +kernel
theorem dL_acts_35 : decode cL_acts 35 = .ok (.bipush 7, 2) := by decide +kernel
theorem dL_acts_37 : decode cL_acts 37 = .ok (.ishr, 1) := by decide +kernel
theorem dL_acts_38 : decode cL_acts 38 = .ok (.iconst 2, 1) := by decide +kernel
theorem dL_acts_39 : decode cL_acts 39 = .ok (.invokestatic 86, 3) := by decide +kernel
theorem dL_acts_42 : decode cL_acts 42 = .ok (.istore 8, 2) := by decide +kernel
theorem dL_acts_44 : decode cL_acts 44 = .ok (.iload_n 2, 1) := by decide +kernel
theorem dL_acts_45 : decode cL_acts 45 = .ok (.iconst 4, 1) := by decide +kernel
theorem dL_acts_46 : decode cL_acts 46 = .ok (.ishr, 1) := by decide +kernel
theorem dL_acts_47 : decode cL_acts 47 = .ok (.bipush 30, 2) := by decide +kernel
theorem dL_acts_49 : decode cL_acts 49 = .ok (.invokestatic 86, 3) := by decide +kernel
theorem dL_acts_52 : decode cL_acts 52 = .ok (.ifCond .ne 8, 3) := by decide +kernel
theorem dL_acts_55 : decode cL_acts 55 = .ok (.bipush 41, 2) := by decide +kernel
theorem dL_acts_57 : decode cL_acts 57 = .ok (.goto 13, 3) := by decide +kernel
theorem dL_acts_60 : decode cL_acts 60 = .ok (.iconst 3, 1) := by decide +kernel
theorem dL_acts_61 : decode cL_acts 61 = .ok (.iload_n 2, 1) := by decide +kernel
theorem dL_acts_62 : decode cL_acts 62 = .ok (.iconst 4, 1) := by decide +kernel
theorem dL_acts_63 : decode cL_acts 63 = .ok (.ishr, 1) := by decide +kernel
theorem dL_acts_64 : decode cL_acts 64 = .ok (.bipush 20, 2) := by decide +kernel
theorem dL_acts_66 : decode cL_acts 66 = .ok (.invokestatic 86, 3) := by decide +kernel
theorem dL_acts_69 : decode cL_acts 69 = .ok (.iadd, 1) := by decide +kernel
theorem dL_acts_70 : decode cL_acts 70 = .ok (.istore 9, 2) := by decide +kernel
theorem dL_acts_72 : decode cL_acts 72 = .ok (.iload 6, 2) := by decide +kernel
theorem dL_acts_74 : decode cL_acts 74 = .ok (.bipush 63, 2) := by decide +kernel
theorem dL_acts_76 : decode cL_acts 76 = .ok (.if_icmp .gt 23, 3) := by decide +kernel
theorem dL_acts_79 : decode cL_acts 79 = .ok (.iload 7, 2) := by decide +kernel
theorem dL_acts_81 : decode cL_acts 81 = .ok (.bipush 63, 2) := by decide +kernel
theorem dL_acts_83 : decode cL_acts 83 = .ok (.if_icmp .gt 16, 3) := by decide +kernel
theorem dL_acts_86 : decode cL_acts 86 = .ok (.iload 8, 2) := by decide +kernel
theorem dL_acts_88 : decode cL_acts 88 = .ok (.iconst 2, 1) := by decide +kernel
theorem dL_acts_89 : decode cL_acts 89 = .ok (.if_icmp .gt 10, 3) := by decide +kernel
theorem dL_acts_92 : decode cL_acts 92 = .ok (.iload 9, 2) := by decide +kernel
theorem dL_acts_94 : decode cL_acts 94 = .ok (.bipush 40, 2) := by decide +kernel
theorem dL_acts_96 : decode cL_acts 96 = .ok (.if_icmp .le 8, 3) := by decide +kernel
theorem dL_acts_99 : decode cL_acts 99 = .ok (.bipush (-101), 2) := by decide +kernel
theorem dL_acts_101 : decode cL_acts 101 = .ok (.goto 6, 3) := by decide +kernel
theorem dL_acts_104 : decode cL_acts 104 = .ok (.aload_n 3, 1) := by decide +kernel
theorem dL_acts_105 : decode cL_acts 105 = .ok (.iconst 0, 1) := by decide +kernel
theorem dL_acts_106 : decode cL_acts 106 = .ok (.iaload, 1) := by decide +kernel
theorem dL_acts_107 : decode cL_acts 107 = .ok (.istore 10, 2) := by decide +kernel
theorem dL_acts_109 : decode cL_acts 109 = .ok (.iload 10, 2) := by decide +kernel
theorem dL_acts_111 : decode cL_acts 111 = .ok (.iconst 4, 1) := by decide +kernel
theorem dL_acts_112 : decode cL_acts 112 = .ok (.if_icmp .ne 5, 3) := by decide +kernel
theorem dL_acts_115 : decode cL_acts 115 = .ok (.iconst 1, 1) := by decide +kernel
theorem dL_acts_116 : decode cL_acts 116 = .ok (.ireturn, 1) := by decide +kernel
theorem dL_acts_117 : decode cL_acts 117 = .ok (.iload 10, 2) := by decide +kernel
theorem dL_acts_119 : decode cL_acts 119 = .ok (.ifCond .lt 55, 3) := by decide +kernel
theorem dL_acts_122 : decode cL_acts 122 = .ok (.aload 4, 2) := by decide +kernel
theorem dL_acts_124 : decode cL_acts 124 = .ok (.iload 10, 2) := by decide +kernel
theorem dL_acts_126 : decode cL_acts 126 = .ok (.iload 6, 2) := by decide +kernel
theorem dL_acts_128 : decode cL_acts 128 = .ok (.iastore, 1) := by decide +kernel
theorem dL_acts_129 : decode cL_acts 129 = .ok (.aload 4, 2) := by decide +kernel
theorem dL_acts_131 : decode cL_acts 131 = .ok (.iconst 4, 1) := by decide +kernel
theorem dL_acts_132 : decode cL_acts 132 = .ok (.iload 10, 2) := by decide +kernel
theorem dL_acts_134 : decode cL_acts 134 = .ok (.iadd, 1) := by decide +kernel
theorem dL_acts_135 : decode cL_acts 135 = .ok (.iload 7, 2) := by decide +kernel
theorem dL_acts_137 : decode cL_acts 137 = .ok (.iastore, 1) := by decide +kernel
theorem dL_acts_138 : decode cL_acts 138 = .ok (.aload 4, 2) := by decide +kernel
theorem dL_acts_140 : decode cL_acts 140 = .ok (.bipush 8, 2) := by decide +kernel
theorem dL_acts_142 : decode cL_acts 142 = .ok (.iload 10, 2) := by decide +kernel
theorem dL_acts_144 : decode cL_acts 144 = .ok (.iadd, 1) := by decide +kernel
theorem dL_acts_145 : decode cL_acts 145 = .ok (.iload 8, 2) := by decide +kernel
theorem dL_acts_147 : decode cL_acts 147 = .ok (.iastore, 1) := by decide +kernel
theorem dL_acts_148 : decode cL_acts 148 = .ok (.aload 4, 2) := by decide +kernel
theorem dL_acts_150 : decode cL_acts 150 = .ok (.bipush 12, 2) := by decide +kernel
theorem dL_acts_152 : decode cL_acts 152 = .ok (.iload 10, 2) := by decide +kernel
theorem dL_acts_154 : decode cL_acts 154 = .ok (.iadd, 1) := by decide +kernel
theorem dL_acts_155 : decode cL_acts 155 = .ok (.iload 9, 2) := by decide +kernel
theorem dL_acts_157 : decode cL_acts 157 = .ok (.iastore, 1) := by decide +kernel
theorem dL_acts_158 : decode cL_acts 158 = .ok (.aload 4, 2) := by decide +kernel
theorem dL_acts_160 : decode cL_acts 160 = .ok (.bipush 16, 2) := by decide +kernel
theorem dL_acts_162 : decode cL_acts 162 = .ok (.iload 10, 2) := by decide +kernel
theorem dL_acts_164 : decode cL_acts 164 = .ok (.iadd, 1) := by decide +kernel
theorem dL_acts_165 : decode cL_acts 165 = .ok (.iconst 1, 1) := by decide +kernel
theorem dL_acts_166 : decode cL_acts 166 = .ok (.iastore, 1) := by decide +kernel
theorem dL_acts_167 : decode cL_acts 167 = .ok (.aload_n 3, 1) := by decide +kernel
theorem dL_acts_168 : decode cL_acts 168 = .ok (.iconst 0, 1) := by decide +kernel
theorem dL_acts_169 : decode cL_acts 169 = .ok (.dup2, 1) := by decide +kernel
theorem dL_acts_170 : decode cL_acts 170 = .ok (.iaload, 1) := by decide +kernel
theorem dL_acts_171 : decode cL_acts 171 = .ok (.iconst 1, 1) := by decide +kernel
theorem dL_acts_172 : decode cL_acts 172 = .ok (.iadd, 1) := by decide +kernel
theorem dL_acts_173 : decode cL_acts 173 = .ok (.iastore, 1) := by decide +kernel
theorem dL_acts_174 : decode cL_acts 174 = .ok (.aload_n 0, 1) := by decide +kernel
theorem dL_acts_175 : decode cL_acts 175 = .ok (.iload 6, 2) := by decide +kernel
theorem dL_acts_177 : decode cL_acts 177 = .ok (.iload 7, 2) := by decide +kernel
theorem dL_acts_179 : decode cL_acts 179 = .ok (.iload 8, 2) := by decide +kernel
theorem dL_acts_181 : decode cL_acts 181 = .ok (.iload 9, 2) := by decide +kernel
theorem dL_acts_183 : decode cL_acts 183 = .ok (.invokestatic 92, 3) := by decide +kernel
theorem dL_acts_186 : decode cL_acts 186 = .ok (.iload 10, 2) := by decide +kernel
theorem dL_acts_188 : decode cL_acts 188 = .ok (.if_icmp .ne 7, 3) := by decide +kernel
theorem dL_acts_191 : decode cL_acts 191 = .ok (.iconst 1, 1) := by decide +kernel
theorem dL_acts_192 : decode cL_acts 192 = .ok (.goto 4, 3) := by decide +kernel
theorem dL_acts_195 : decode cL_acts 195 = .ok (.iconst 0, 1) := by decide +kernel
theorem dL_acts_196 : decode cL_acts 196 = .ok (.ireturn, 1) := by decide +kernel
theorem dL_acts_197 : decode cL_acts 197 = .ok (.iload_n 1, 1) := by decide +kernel
theorem dL_acts_198 : decode cL_acts 198 = .ok (.iconst 1, 1) := by decide +kernel
theorem dL_acts_199 : decode cL_acts 199 = .ok (.if_icmp .ne 170, 3) := by decide +kernel
theorem dL_acts_202 : decode cL_acts 202 = .ok (.iload_n 2, 1) := by decide +kernel
theorem dL_acts_203 : decode cL_acts 203 = .ok (.invokestatic 89, 3) := by decide +kernel
theorem dL_acts_206 : decode cL_acts 206 = .ok (.istore 6, 2) := by decide +kernel
theorem dL_acts_208 : decode cL_acts 208 = .ok (.iload_n 2, 1) := by decide +kernel
theorem dL_acts_209 : decode cL_acts 209 = .ok (.iconst 5, 1) := by decide +kernel
theorem dL_acts_210 : decode cL_acts 210 = .ok (.ishr, 1) := by decide +kernel
theorem dL_acts_211 : decode cL_acts 211 = .ok (.invokestatic 89, 3) := by decide +kernel
theorem dL_acts_214 : decode cL_acts 214 = .ok (.istore 7, 2) := by decide +kernel
theorem dL_acts_216 : decode cL_acts 216 = .ok (.iload_n 2, 1) := by decide +kernel
theorem dL_acts_217 : decode cL_acts 217 = .ok (.bipush 7, 2) := by decide +kernel
theorem dL_acts_219 : decode cL_acts 219 = .ok (.ishr, 1) := by decide +kernel
theorem dL_acts_220 : decode cL_acts 220 = .ok (.bipush 30, 2) := by decide +kernel
theorem dL_acts_222 : decode cL_acts 222 = .ok (.invokestatic 86, 3) := by decide +kernel
theorem dL_acts_225 : decode cL_acts 225 = .ok (.ifCond .ne 7, 3) := by decide +kernel
theorem dL_acts_228 : decode cL_acts 228 = .ok (.iconst 0, 1) := by decide +kernel
theorem dL_acts_229 : decode cL_acts 229 = .ok (.goto 14, 3) := by decide +kernel
theorem dL_acts_232 : decode cL_acts 232 = .ok (.iconst 1, 1) := by decide +kernel
theorem dL_acts_233 : decode cL_acts 233 = .ok (.iload_n 2, 1) := by decide +kernel
theorem dL_acts_234 : decode cL_acts 234 = .ok (.bipush 7, 2) := by decide +kernel
theorem dL_acts_236 : decode cL_acts 236 = .ok (.ishr, 1) := by decide +kernel
theorem dL_acts_237 : decode cL_acts 237 = .ok (.bipush 10, 2) := by decide +kernel
theorem dL_acts_239 : decode cL_acts 239 = .ok (.invokestatic 86, 3) := by decide +kernel
theorem dL_acts_242 : decode cL_acts 242 = .ok (.iadd, 1) := by decide +kernel
theorem dL_acts_243 : decode cL_acts 243 = .ok (.istore 8, 2) := by decide +kernel
theorem dL_acts_245 : decode cL_acts 245 = .ok (.iload 6, 2) := by decide +kernel
theorem dL_acts_247 : decode cL_acts 247 = .ok (.bipush 63, 2) := by decide +kernel
theorem dL_acts_249 : decode cL_acts 249 = .ok (.if_icmp .gt 16, 3) := by decide +kernel
theorem dL_acts_252 : decode cL_acts 252 = .ok (.iload 7, 2) := by decide +kernel
theorem dL_acts_254 : decode cL_acts 254 = .ok (.bipush 63, 2) := by decide +kernel
theorem dL_acts_256 : decode cL_acts 256 = .ok (.if_icmp .gt 9, 3) := by decide +kernel
theorem dL_acts_259 : decode cL_acts 259 = .ok (.iload 8, 2) := by decide +kernel
theorem dL_acts_261 : decode cL_acts 261 = .ok (.iconst 1, 1) := by decide +kernel
theorem dL_acts_262 : decode cL_acts 262 = .ok (.if_icmp .ge 8, 3) := by decide +kernel
theorem dL_acts_265 : decode cL_acts 265 = .ok (.bipush (-101), 2) := by decide +kernel
theorem dL_acts_267 : decode cL_acts 267 = .ok (.goto 6, 3) := by decide +kernel
theorem dL_acts_270 : decode cL_acts 270 = .ok (.aload_n 3, 1) := by decide +kernel
theorem dL_acts_271 : decode cL_acts 271 = .ok (.iconst 1, 1) := by decide +kernel
theorem dL_acts_272 : decode cL_acts 272 = .ok (.iaload, 1) := by decide +kernel
theorem dL_acts_273 : decode cL_acts 273 = .ok (.istore 9, 2) := by decide +kernel
theorem dL_acts_275 : decode cL_acts 275 = .ok (.iload 9, 2) := by decide +kernel
theorem dL_acts_277 : decode cL_acts 277 = .ok (.iconst 4, 1) := by decide +kernel
theorem dL_acts_278 : decode cL_acts 278 = .ok (.if_icmp .ne 5, 3) := by decide +kernel
theorem dL_acts_281 : decode cL_acts 281 = .ok (.iconst 1, 1) := by decide +kernel
theorem dL_acts_282 : decode cL_acts 282 = .ok (.ireturn, 1) := by decide +kernel
theorem dL_acts_283 : decode cL_acts 283 = .ok (.iload 9, 2) := by decide +kernel
theorem dL_acts_285 : decode cL_acts 285 = .ok (.ifCond .lt 63, 3) := by decide +kernel
theorem dL_acts_288 : decode cL_acts 288 = .ok (.aload 5, 2) := by decide +kernel
theorem dL_acts_290 : decode cL_acts 290 = .ok (.iload 9, 2) := by decide +kernel
theorem dL_acts_292 : decode cL_acts 292 = .ok (.iload 6, 2) := by decide +kernel
theorem dL_acts_294 : decode cL_acts 294 = .ok (.iastore, 1) := by decide +kernel
theorem dL_acts_295 : decode cL_acts 295 = .ok (.aload 5, 2) := by decide +kernel
theorem dL_acts_297 : decode cL_acts 297 = .ok (.iconst 4, 1) := by decide +kernel
theorem dL_acts_298 : decode cL_acts 298 = .ok (.iload 9, 2) := by decide +kernel
theorem dL_acts_300 : decode cL_acts 300 = .ok (.iadd, 1) := by decide +kernel
theorem dL_acts_301 : decode cL_acts 301 = .ok (.iload 7, 2) := by decide +kernel
theorem dL_acts_303 : decode cL_acts 303 = .ok (.iastore, 1) := by decide +kernel
theorem dL_acts_304 : decode cL_acts 304 = .ok (.aload 5, 2) := by decide +kernel
theorem dL_acts_306 : decode cL_acts 306 = .ok (.bipush 8, 2) := by decide +kernel
theorem dL_acts_308 : decode cL_acts 308 = .ok (.iload 9, 2) := by decide +kernel
theorem dL_acts_310 : decode cL_acts 310 = .ok (.iadd, 1) := by decide +kernel
theorem dL_acts_311 : decode cL_acts 311 = .ok (.iload 8, 2) := by decide +kernel
theorem dL_acts_313 : decode cL_acts 313 = .ok (.iastore, 1) := by decide +kernel
theorem dL_acts_314 : decode cL_acts 314 = .ok (.aload 5, 2) := by decide +kernel
theorem dL_acts_316 : decode cL_acts 316 = .ok (.bipush 12, 2) := by decide +kernel
theorem dL_acts_318 : decode cL_acts 318 = .ok (.iload 9, 2) := by decide +kernel
theorem dL_acts_320 : decode cL_acts 320 = .ok (.iadd, 1) := by decide +kernel
theorem dL_acts_321 : decode cL_acts 321 = .ok (.iconst (-1), 1) := by decide +kernel
theorem dL_acts_322 : decode cL_acts 322 = .ok (.iastore, 1) := by decide +kernel
theorem dL_acts_323 : decode cL_acts 323 = .ok (.aload 5, 2) := by decide +kernel
theorem dL_acts_325 : decode cL_acts 325 = .ok (.bipush 16, 2) := by decide +kernel
theorem dL_acts_327 : decode cL_acts 327 = .ok (.iload 9, 2) := by decide +kernel
theorem dL_acts_329 : decode cL_acts 329 = .ok (.iadd, 1) := by decide +kernel
theorem dL_acts_330 : decode cL_acts 330 = .ok (.iconst (-1), 1) := by decide +kernel
theorem dL_acts_331 : decode cL_acts 331 = .ok (.iastore, 1) := by decide +kernel
theorem dL_acts_332 : decode cL_acts 332 = .ok (.aload 5, 2) := by decide +kernel
theorem dL_acts_334 : decode cL_acts 334 = .ok (.bipush 24, 2) := by decide +kernel
theorem dL_acts_336 : decode cL_acts 336 = .ok (.iload 9, 2) := by decide +kernel
theorem dL_acts_338 : decode cL_acts 338 = .ok (.iadd, 1) := by decide +kernel
theorem dL_acts_339 : decode cL_acts 339 = .ok (.iconst (-1), 1) := by decide +kernel
theorem dL_acts_340 : decode cL_acts 340 = .ok (.iastore, 1) := by decide +kernel
theorem dL_acts_341 : decode cL_acts 341 = .ok (.aload_n 3, 1) := by decide +kernel
theorem dL_acts_342 : decode cL_acts 342 = .ok (.iconst 1, 1) := by decide +kernel
theorem dL_acts_343 : decode cL_acts 343 = .ok (.dup2, 1) := by decide +kernel
theorem dL_acts_344 : decode cL_acts 344 = .ok (.iaload, 1) := by decide +kernel
theorem dL_acts_345 : decode cL_acts 345 = .ok (.iconst 1, 1) := by decide +kernel
theorem dL_acts_346 : decode cL_acts 346 = .ok (.iadd, 1) := by decide +kernel
theorem dL_acts_347 : decode cL_acts 347 = .ok (.iastore, 1) := by decide +kernel
theorem dL_acts_348 : decode cL_acts 348 = .ok (.aload_n 0, 1) := by decide +kernel
theorem dL_acts_349 : decode cL_acts 349 = .ok (.iload 6, 2) := by decide +kernel
theorem dL_acts_351 : decode cL_acts 351 = .ok (.iload 7, 2) := by decide +kernel
theorem dL_acts_353 : decode cL_acts 353 = .ok (.iload 8, 2) := by decide +kernel
theorem dL_acts_355 : decode cL_acts 355 = .ok (.invokestatic 96, 3) := by decide +kernel
theorem dL_acts_358 : decode cL_acts 358 = .ok (.iload 9, 2) := by decide +kernel
theorem dL_acts_360 : decode cL_acts 360 = .ok (.if_icmp .ne 7, 3) := by decide +kernel
theorem dL_acts_363 : decode cL_acts 363 = .ok (.iconst 1, 1) := by decide +kernel
theorem dL_acts_364 : decode cL_acts 364 = .ok (.goto 4, 3) := by decide +kernel
theorem dL_acts_367 : decode cL_acts 367 = .ok (.iconst 0, 1) := by decide +kernel
theorem dL_acts_368 : decode cL_acts 368 = .ok (.ireturn, 1) := by decide +kernel
theorem dL_acts_369 : decode cL_acts 369 = .ok (.iload_n 2, 1) := by decide +kernel
theorem dL_acts_370 : decode cL_acts 370 = .ok (.aload_n 3, 1) := by decide +kernel
theorem dL_acts_371 : decode cL_acts 371 = .ok (.iconst 0, 1) := by decide +kernel
theorem dL_acts_372 : decode cL_acts 372 = .ok (.iaload, 1) := by decide +kernel
theorem dL_acts_373 : decode cL_acts 373 = .ok (.iconst 1, 1) := by decide +kernel
theorem dL_acts_374 : decode cL_acts 374 = .ok (.iadd, 1) := by decide +kernel
theorem dL_acts_375 : decode cL_acts 375 = .ok (.invokestatic 86, 3) := by decide +kernel
theorem dL_acts_378 : decode cL_acts 378 = .ok (.iload_n 2, 1) := by decide +kernel
theorem dL_acts_379 : decode cL_acts 379 = .ok (.bipush 9, 2) := by decide +kernel
theorem dL_acts_381 : decode cL_acts 381 = .ok (.ishr, 1) := by decide +kernel
theorem dL_acts_382 : decode cL_acts 382 = .ok (.bipush 17, 2) := by decide +kernel
theorem dL_acts_384 : decode cL_acts 384 = .ok (.invokestatic 86, 3) := by decide +kernel
theorem dL_acts_387 : decode cL_acts 387 = .ok (.ifCond .ne 7, 3) := by decide +kernel
theorem dL_acts_390 : decode cL_acts 390 = .ok (.iconst 1, 1) := by decide +kernel
theorem dL_acts_391 : decode cL_acts 391 = .ok (.goto 4, 3) := by decide +kernel
theorem dL_acts_394 : decode cL_acts 394 = .ok (.iconst 0, 1) := by decide +kernel
theorem dL_acts_395 : decode cL_acts 395 = .ok (.isub, 1) := by decide +kernel
theorem dL_acts_396 : decode cL_acts 396 = .ok (.istore 6, 2) := by decide +kernel
theorem dL_acts_398 : decode cL_acts 398 = .ok (.iload 6, 2) := by decide +kernel
theorem dL_acts_400 : decode cL_acts 400 = .ok (.ifCond .lt 15, 3) := by decide +kernel
theorem dL_acts_403 : decode cL_acts 403 = .ok (.iload 6, 2) := by decide +kernel
theorem dL_acts_405 : decode cL_acts 405 = .ok (.aload_n 3, 1) := by decide +kernel
theorem dL_acts_406 : decode cL_acts 406 = .ok (.iconst 0, 1) := by decide +kernel
theorem dL_acts_407 : decode cL_acts 407 = .ok (.iaload, 1) := by decide +kernel
theorem dL_acts_408 : decode cL_acts 408 = .ok (.if_icmp .ge 7, 3) := by decide +kernel
theorem dL_acts_411 : decode cL_acts 411 = .ok (.iconst 1, 1) := by decide +kernel
theorem dL_acts_412 : decode cL_acts 412 = .ok (.goto 4, 3) := by decide +kernel
theorem dL_acts_415 : decode cL_acts 415 = .ok (.iconst 0, 1) := by decide +kernel
theorem dL_acts_416 : decode cL_acts 416 = .ok (.istore 7, 2) := by decide +kernel
theorem dL_acts_418 : decode cL_acts 418 = .ok (.iload_n 1, 1) := by decide +kernel
theorem dL_acts_419 : decode cL_acts 419 = .ok (.iconst 2, 1) := by decide +kernel
theorem dL_acts_420 : decode cL_acts 420 = .ok (.if_icmp .ne 123, 3) := by decide +kernel
theorem dL_acts_423 : decode cL_acts 423 = .ok (.iload 7, 2) := by decide +kernel
theorem dL_acts_425 : decode cL_acts 425 = .ok (.ifCond .ne 20, 3) := by decide +kernel
theorem dL_acts_428 : decode cL_acts 428 = .ok (.aload_n 0, 1) := by decide +kernel
theorem dL_acts_429 : decode cL_acts 429 = .ok (.iload 6, 2) := by decide +kernel
theorem dL_acts_431 : decode cL_acts 431 = .ok (.invokestatic 100, 3) := by decide +kernel
theorem dL_acts_434 : decode cL_acts 434 = .ok (.bipush (-101), 2) := by decide +kernel
theorem dL_acts_436 : decode cL_acts 436 = .ok (.if_icmp .ne 7, 3) := by decide +kernel
theorem dL_acts_439 : decode cL_acts 439 = .ok (.iconst 1, 1) := by decide +kernel
theorem dL_acts_440 : decode cL_acts 440 = .ok (.goto 4, 3) := by decide +kernel
theorem dL_acts_443 : decode cL_acts 443 = .ok (.iconst 0, 1) := by decide +kernel
theorem dL_acts_444 : decode cL_acts 444 = .ok (.ireturn, 1) := by decide +kernel
theorem dL_acts_445 : decode cL_acts 445 = .ok (.aload 4, 2) := by decide +kernel
theorem dL_acts_447 : decode cL_acts 447 = .ok (.bipush 16, 2) := by decide +kernel
theorem dL_acts_449 : decode cL_acts 449 = .ok (.iload 6, 2) := by decide +kernel
theorem dL_acts_451 : decode cL_acts 451 = .ok (.iadd, 1) := by decide +kernel
theorem dL_acts_452 : decode cL_acts 452 = .ok (.iconst 1, 1) := by decide +kernel
theorem dL_acts_453 : decode cL_acts 453 = .ok (.aload 4, 2) := by decide +kernel
theorem dL_acts_455 : decode cL_acts 455 = .ok (.bipush 16, 2) := by decide +kernel
theorem dL_acts_457 : decode cL_acts 457 = .ok (.iload 6, 2) := by decide +kernel
theorem dL_acts_459 : decode cL_acts 459 = .ok (.iadd, 1) := by decide +kernel
theorem dL_acts_460 : decode cL_acts 460 = .ok (.iaload, 1) := by decide +kernel
theorem dL_acts_461 : decode cL_acts 461 = .ok (.isub, 1) := by decide +kernel
theorem dL_acts_462 : decode cL_acts 462 = .ok (.iastore, 1) := by decide +kernel
theorem dL_acts_463 : decode cL_acts 463 = .ok (.iconst 0, 1) := by decide +kernel
theorem dL_acts_464 : decode cL_acts 464 = .ok (.istore 8, 2) := by decide +kernel
theorem dL_acts_466 : decode cL_acts 466 = .ok (.iload 8, 2) := by decide +kernel
theorem dL_acts_468 : decode cL_acts 468 = .ok (.aload_n 3, 1) := by decide +kernel
theorem dL_acts_469 : decode cL_acts 469 = .ok (.iconst 1, 1) := by decide +kernel
theorem dL_acts_470 : decode cL_acts 470 = .ok (.iaload, 1) := by decide +kernel
theorem dL_acts_471 : decode cL_acts 471 = .ok (.if_icmp .ge 49, 3) := by decide +kernel
theorem dL_acts_474 : decode cL_acts 474 = .ok (.aload 5, 2) := by decide +kernel
theorem dL_acts_476 : decode cL_acts 476 = .ok (.bipush 12, 2) := by decide +kernel
theorem dL_acts_478 : decode cL_acts 478 = .ok (.iload 8, 2) := by decide +kernel
theorem dL_acts_480 : decode cL_acts 480 = .ok (.iadd, 1) := by decide +kernel
theorem dL_acts_481 : decode cL_acts 481 = .ok (.iaload, 1) := by decide +kernel
theorem dL_acts_482 : decode cL_acts 482 = .ok (.iload 6, 2) := by decide +kernel
theorem dL_acts_484 : decode cL_acts 484 = .ok (.if_icmp .ne 30, 3) := by decide +kernel
theorem dL_acts_487 : decode cL_acts 487 = .ok (.aload 5, 2) := by decide +kernel
theorem dL_acts_489 : decode cL_acts 489 = .ok (.bipush 12, 2) := by decide +kernel
theorem dL_acts_491 : decode cL_acts 491 = .ok (.iload 8, 2) := by decide +kernel
theorem dL_acts_493 : decode cL_acts 493 = .ok (.iadd, 1) := by decide +kernel
theorem dL_acts_494 : decode cL_acts 494 = .ok (.iconst (-1), 1) := by decide +kernel
theorem dL_acts_495 : decode cL_acts 495 = .ok (.iastore, 1) := by decide +kernel
theorem dL_acts_496 : decode cL_acts 496 = .ok (.aload 5, 2) := by decide +kernel
theorem dL_acts_498 : decode cL_acts 498 = .ok (.bipush 16, 2) := by decide +kernel
theorem dL_acts_500 : decode cL_acts 500 = .ok (.iload 8, 2) := by decide +kernel
theorem dL_acts_502 : decode cL_acts 502 = .ok (.iadd, 1) := by decide +kernel
theorem dL_acts_503 : decode cL_acts 503 = .ok (.iconst (-1), 1) := by decide +kernel
theorem dL_acts_504 : decode cL_acts 504 = .ok (.iastore, 1) := by decide +kernel
theorem dL_acts_505 : decode cL_acts 505 = .ok (.aload 5, 2) := by decide +kernel
