set_option maxRecDepth 20000 in
theorem gL_act_X4_align : GoodIn wsL_act (wsV RL 36 RX4 yX4_align wsX4_align) := goodIn_app (goodIn_of _ (by decide +kernel)) ggL_act_X4_align
set_option maxRecDepth 20000 in
theorem ggL_act_X4_roll : GoodIn wsL_act wsX4_roll := goodIn_ca (goodIn_r _ [42, 29, 30, 31, 32, 33, 27, 34, 170, 171, 172, 173, 174, 175, 176, 177, 178, 179, 180, 181] (by decide +kernel) (by decide +kernel)) (goodIn_sub (fun _ h => List.mem_cons_of_mem _ (List.mem_append_left _ (List.mem_append_left _ (List.mem_append_right _ h)))) (by decide +kernel))
set_option maxRecDepth 20000 in
theorem gL_act_X4_roll : GoodIn wsL_act (wsV RL 49 RX4 yX4_roll wsX4_roll) := goodIn_app (goodIn_of _ (by decide +kernel)) ggL_act_X4_roll
set_option maxRecDepth 20000 in
theorem ggL_act_X4_fit : GoodIn wsL_act wsX4_fit := goodIn_ca (goodIn_ca (goodIn_r _ [46, 29, 30, 31, 47, 48, 27, 49, 50, 51, 32, 33, 34, 170, 171, 172, 173, 174, 175, 176, 177, 178, 179, 180, 181, 182, 183] (by decide +kernel) (by decide +kernel)) (goodIn_sub (fun _ h => List.mem_cons_of_mem _ (List.mem_append_left _ (List.mem_append_left _ (List.mem_append_right _ h)))) (by decide +kernel))) (goodIn_sub (fun _ h => List.mem_cons_of_mem _ (List.mem_append_left _ (List.mem_append_right _ h))) (by decide +kernel))
set_option maxRecDepth 20000 in
theorem gL_act_X4_fit : GoodIn wsL_act (wsV RL 68 RX4 yX4_fit wsX4_fit) := goodIn_app (goodIn_of _ (by decide +kernel)) ggL_act_X4_fit
set_option maxRecDepth 20000 in
theorem ggL_act_X4_turn : GoodIn wsL_act wsX4_turn := goodIn_ca (goodIn_r _ [55, 56, 57, 58, 27, 59, 50, 51, 32, 33, 34, 170, 171, 172, 173, 174] (by decide +kernel) (by decide +kernel)) (goodIn_sub (fun _ h => List.mem_cons_of_mem _ (List.mem_append_left _ (List.mem_append_right _ h))) (by decide +kernel))
set_option maxRecDepth 20000 in
theorem gL_act_X4_turn : GoodIn wsL_act (wsV RL 75 RX4 yX4_turn wsX4_turn) := goodIn_app (goodIn_of _ (by decide +kernel)) ggL_act_X4_turn
set_option maxRecDepth 20000 in
theorem ggL_act_X4_run : GoodIn wsL_act wsX4_run := goodIn_ca (goodIn_r _ [63, 64, 65, 66, 31, 56, 67, 68, 69, 70, 71, 72, 73, 74, 75, 76, 77, 78, 79, 80, 81, 82, 83, 84, 85, 86, 87, 88, 33, 27, 34, 89, 90, 91, 92, 93, 94, 95, 96, 97, 98, 99, 100, 101, 102, 103, 104, 105, 106, 107, 108, 109, 110, 111, 112, 113, 114, 170, 171, 172, 173, 174, 175, 176, 177, 178, 179, 180, 181, 184, 185, 182, 183] (by decide +kernel) (by decide +kernel)) (goodIn_sub (fun _ h => List.mem_cons_of_mem _ (List.mem_append_right _ h)) (by decide +kernel))
set_option maxRecDepth 20000 in
theorem gL_act_X4_run : GoodIn wsL_act (wsV RL 79 RX4 yX4_run wsX4_run) := goodIn_app (goodIn_of _ (by decide +kernel)) ggL_act_X4_run
set_option maxRecDepth 20000 in
theorem ggL_act_X5_run : GoodIn wsL_act wsX5_run := goodIn_r _ [119, 120, 121, 122, 123, 124, 125, 126, 127, 118, 128, 129, 130, 131, 132, 133, 134, 135, 136, 137, 138, 139, 158, 159, 160, 161, 162, 163, 164, 165, 166, 167, 168, 169] (by decide +kernel) (by decide +kernel)
set_option maxRecDepth 20000 in
theorem gL_act_X5_run : GoodIn wsL_act (wsV RL 82 RX5 yX5_run wsX5_run) := goodIn_app (goodIn_of _ (by decide +kernel)) ggL_act_X5_run
set_option maxRecDepth 20000 in
theorem ggL_act_X5_worth : GoodIn wsL_act wsX5_worth := goodIn_r _ [142] (by decide +kernel) (by decide +kernel)
set_option maxRecDepth 20000 in
theorem gL_act_X5_worth : GoodIn wsL_act (va_wsS RL 87 yX5_worth wsX5_worth) := goodIn_app (goodIn_of _ (by decide +kernel)) ggL_act_X5_worth
set_option maxRecDepth 20000 in
theorem ggL_act_X4_tear : GoodIn wsL_act wsX4_tear := goodIn_ca (goodIn_ca (goodIn_r _ [146, 64, 65, 67, 147, 148, 149, 27, 150, 50, 51, 66, 32, 33, 34, 57, 58, 59, 151, 152, 153, 154, 155, 156, 157, 170, 171, 172, 173, 174, 184, 185] (by decide +kernel) (by decide +kernel)) (goodIn_sub (fun _ h => List.mem_cons_of_mem _ (List.mem_append_right _ h)) (by decide +kernel))) (goodIn_sub (fun _ h => List.mem_cons_of_mem _ (List.mem_append_left _ (List.mem_append_right _ h))) (by decide +kernel))
set_option maxRecDepth 20000 in
theorem gL_act_X4_tear : GoodIn wsL_act (wsV RL 91 RX4 yX4_tear wsX4_tear) := goodIn_app (goodIn_of _ (by decide +kernel)) ggL_act_X4_tear
theorem dL_act_0 : decode cL_act 0 = .ok (.aload_n 1, 1) := by decide +kernel
theorem dL_act_1 : decode cL_act 1 = .ok (.getfield 9, 3) := by decide +kernel
theorem dL_act_4 : decode cL_act 4 = .ok (.arraylength, 1) := by decide +kernel
theorem dL_act_5 : decode cL_act 5 = .ok (.istore_n 3, 1) := by decide +kernel
theorem dL_act_6 : decode cL_act 6 = .ok (.iload_n 2, 1) := by decide +kernel
theorem dL_act_7 : decode cL_act 7 = .ok (.bipush 9, 2) := by decide +kernel
theorem dL_act_9 : decode cL_act 9 = .ok (.ishr, 1) := by decide +kernel
theorem dL_act_10 : decode cL_act 10 = .ok (.bipush 12, 2) := by decide +kernel
theorem dL_act_12 : decode cL_act 12 = .ok (.invokestatic 15, 3) := by decide +kernel
theorem dL_act_15 : decode cL_act 15 = .ok (.tableswitch 448 0 9 #[53, 53, 150, 176, 239, 239, 343, 343, 415, 415], 53) := by decide +kernel
theorem dL_act_68 : decode cL_act 68 = .ok (.bipush 100, 2) := by decide +kernel
theorem dL_act_70 : decode cL_act 70 = .ok (.aload_n 1, 1) := by decide +kernel
theorem dL_act_71 : decode cL_act 71 = .ok (.getfield 21, 3) := by decide +kernel
theorem dL_act_74 : decode cL_act 74 = .ok (.imul, 1) := by decide +kernel
theorem dL_act_75 : decode cL_act 75 = .ok (.aload_n 1, 1) := by decide +kernel
theorem dL_act_76 : decode cL_act 76 = .ok (.getfield 25, 3) := by decide +kernel
theorem dL_act_79 : decode cL_act 79 = .ok (.iadd, 1) := by decide +kernel
theorem dL_act_80 : decode cL_act 80 = .ok (.istore 4, 2) := by decide +kernel
theorem dL_act_82 : decode cL_act 82 = .ok (.aload_n 1, 1) := by decide +kernel
theorem dL_act_83 : decode cL_act 83 = .ok (.iload_n 2, 1) := by decide +kernel
theorem dL_act_84 : decode cL_act 84 = .ok (.iconst 5, 1) := by decide +kernel
theorem dL_act_85 : decode cL_act 85 = .ok (.ishr, 1) := by decide +kernel
theorem dL_act_86 : decode cL_act 86 = .ok (.iconst 2, 1) := by decide +kernel
theorem dL_act_87 : decode cL_act 87 = .ok (.invokestatic 15, 3) := by decide +kernel
theorem dL_act_90 : decode cL_act 90 = .ok (.ifCond .ne 8, 3) := by decide +kernel
theorem dL_act_93 : decode cL_act 93 = .ok (.bipush 20, 2) := by decide +kernel
theorem dL_act_95 : decode cL_act 95 = .ok (.goto 14, 3) := by decide +kernel
theorem dL_act_98 : decode cL_act 98 = .ok (.bipush 10, 2) := by decide +kernel
theorem dL_act_100 : decode cL_act 100 = .ok (.iload_n 2, 1) := by decide +kernel
theorem dL_act_101 : decode cL_act 101 = .ok (.iconst 2, 1) := by decide +kernel
theorem dL_act_102 : decode cL_act 102 = .ok (.ishr, 1) := by decide +kernel
theorem dL_act_103 : decode cL_act 103 = .ok (.bipush 21, 2) := by decide +kernel
theorem dL_act_105 : decode cL_act 105 = .ok (.invokestatic 15, 3) := by decide +kernel
theorem dL_act_108 : decode cL_act 108 = .ok (.iadd, 1) := by decide +kernel
theorem dL_act_109 : decode cL_act 109 = .ok (.putfield 21, 3) := by decide +kernel
theorem dL_act_112 : decode cL_act 112 = .ok (.aload_n 1, 1) := by decide +kernel
theorem dL_act_113 : decode cL_act 113 = .ok (.iload_n 2, 1) := by decide +kernel
theorem dL_act_114 : decode cL_act 114 = .ok (.bipush 6, 2) := by decide +kernel
theorem dL_act_116 : decode cL_act 116 = .ok (.ishr, 1) := by decide +kernel
theorem dL_act_117 : decode cL_act 117 = .ok (.iconst 2, 1) := by decide +kernel
theorem dL_act_118 : decode cL_act 118 = .ok (.invokestatic 15, 3) := by decide +kernel
theorem dL_act_121 : decode cL_act 121 = .ok (.ifCond .ne 7, 3) := by decide +kernel
theorem dL_act_124 : decode cL_act 124 = .ok (.iconst 0, 1) := by decide +kernel
theorem dL_act_125 : decode cL_act 125 = .ok (.goto 14, 3) := by decide +kernel
theorem dL_act_128 : decode cL_act 128 = .ok (.iload_n 2, 1) := by decide +kernel
theorem dL_act_129 : decode cL_act 129 = .ok (.iconst 3, 1) := by decide +kernel
theorem dL_act_130 : decode cL_act 130 = .ok (.ishr, 1) := by decide +kernel
theorem dL_act_131 : decode cL_act 131 = .ok (.bipush 19, 2) := by decide +kernel
theorem dL_act_133 : decode cL_act 133 = .ok (.invokestatic 15, 3) := by decide +kernel
theorem dL_act_136 : decode cL_act 136 = .ok (.bipush 9, 2) := by decide +kernel
theorem dL_act_138 : decode cL_act 138 = .ok (.isub, 1) := by decide +kernel
theorem dL_act_139 : decode cL_act 139 = .ok (.putfield 25, 3) := by decide +kernel
theorem dL_act_142 : decode cL_act 142 = .ok (.aload_n 0, 1) := by decide +kernel
theorem dL_act_143 : decode cL_act 143 = .ok (.aload_n 1, 1) := by decide +kernel
theorem dL_act_144 : decode cL_act 144 = .ok (.getfield 21, 3) := by decide +kernel
theorem dL_act_147 : decode cL_act 147 = .ok (.aload_n 1, 1) := by decide +kernel
theorem dL_act_148 : decode cL_act 148 = .ok (.getfield 25, 3) := by decide +kernel
theorem dL_act_151 : decode cL_act 151 = .ok (.invokevirtual 28, 3) := by decide +kernel
theorem dL_act_154 : decode cL_act 154 = .ok (.iload 4, 2) := by decide +kernel
theorem dL_act_156 : decode cL_act 156 = .ok (.if_icmp .ne 7, 3) := by decide +kernel
theorem dL_act_159 : decode cL_act 159 = .ok (.iconst 1, 1) := by decide +kernel
theorem dL_act_160 : decode cL_act 160 = .ok (.goto 4, 3) := by decide +kernel
theorem dL_act_163 : decode cL_act 163 = .ok (.iconst 0, 1) := by decide +kernel
theorem dL_act_164 : decode cL_act 164 = .ok (.ireturn, 1) := by decide +kernel
theorem dL_act_165 : decode cL_act 165 = .ok (.aload_n 1, 1) := by decide +kernel
theorem dL_act_166 : decode cL_act 166 = .ok (.getfield 33, 3) := by decide +kernel
theorem dL_act_169 : decode cL_act 169 = .ok (.istore 5, 2) := by decide +kernel
theorem dL_act_171 : decode cL_act 171 = .ok (.aload_n 1, 1) := by decide +kernel
theorem dL_act_172 : decode cL_act 172 = .ok (.iconst 0, 1) := by decide +kernel
theorem dL_act_173 : decode cL_act 173 = .ok (.putfield 33, 3) := by decide +kernel
theorem dL_act_176 : decode cL_act 176 = .ok (.aload_n 0, 1) := by decide +kernel
theorem dL_act_177 : decode cL_act 177 = .ok (.invokevirtual 36, 3) := by decide +kernel
theorem dL_act_180 : decode cL_act 180 = .ok (.iload 5, 2) := by decide +kernel
theorem dL_act_182 : decode cL_act 182 = .ok (.if_icmp .ne 7, 3) := by decide +kernel
theorem dL_act_185 : decode cL_act 185 = .ok (.iconst 1, 1) := by decide +kernel
theorem dL_act_186 : decode cL_act 186 = .ok (.goto 4, 3) := by decide +kernel
theorem dL_act_189 : decode cL_act 189 = .ok (.iconst 0, 1) := by decide +kernel
theorem dL_act_190 : decode cL_act 190 = .ok (.ireturn, 1) := by decide +kernel
theorem dL_act_191 : decode cL_act 191 = .ok (.aload_n 1, 1) := by decide +kernel
theorem dL_act_192 : decode cL_act 192 = .ok (.getfield 40, 3) := by decide +kernel
theorem dL_act_195 : decode cL_act 195 = .ok (.istore 6, 2) := by decide +kernel
theorem dL_act_197 : decode cL_act 197 = .ok (.aload_n 1, 1) := by decide +kernel
theorem dL_act_198 : decode cL_act 198 = .ok (.iconst 1, 1) := by decide +kernel
theorem dL_act_199 : decode cL_act 199 = .ok (.iload_n 2, 1) := by decide +kernel
theorem dL_act_200 : decode cL_act 200 = .ok (.iconst 3, 1) := by decide +kernel
theorem dL_act_201 : decode cL_act 201 = .ok (.imul, 1) := by decide +kernel
theorem dL_act_202 : decode cL_act 202 = .ok (.sipush 400, 3) := by decide +kernel
theorem dL_act_205 : decode cL_act 205 = .ok (.invokestatic 15, 3) := by decide +kernel
theorem dL_act_208 : decode cL_act 208 = .ok (.iadd, 1) := by decide +kernel
theorem dL_act_209 : decode cL_act 209 = .ok (.putfield 40, 3) := by decide +kernel
theorem dL_act_212 : decode cL_act 212 = .ok (.aload_n 1, 1) := by decide +kernel
theorem dL_act_213 : decode cL_act 213 = .ok (.iconst 1, 1) := by decide +kernel
theorem dL_act_214 : decode cL_act 214 = .ok (.iload_n 2, 1) := by decide +kernel
theorem dL_act_215 : decode cL_act 215 = .ok (.iconst 4, 1) := by decide +kernel
theorem dL_act_216 : decode cL_act 216 = .ok (.ishr, 1) := by decide +kernel
theorem dL_act_217 : decode cL_act 217 = .ok (.bipush 9, 2) := by decide +kernel
theorem dL_act_219 : decode cL_act 219 = .ok (.invokestatic 15, 3) := by decide +kernel
theorem dL_act_222 : decode cL_act 222 = .ok (.iadd, 1) := by decide +kernel
theorem dL_act_223 : decode cL_act 223 = .ok (.putfield 43, 3) := by decide +kernel
theorem dL_act_226 : decode cL_act 226 = .ok (.aload_n 1, 1) := by decide +kernel
theorem dL_act_227 : decode cL_act 227 = .ok (.iconst 0, 1) := by decide +kernel
theorem dL_act_228 : decode cL_act 228 = .ok (.putfield 46, 3) := by decide +kernel
theorem dL_act_231 : decode cL_act 231 = .ok (.aload_n 0, 1) := by decide +kernel
theorem dL_act_232 : decode cL_act 232 = .ok (.aload_n 1, 1) := by decide +kernel
theorem dL_act_233 : decode cL_act 233 = .ok (.getfield 40, 3) := by decide +kernel
theorem dL_act_236 : decode cL_act 236 = .ok (.aload_n 1, 1) := by decide +kernel
theorem dL_act_237 : decode cL_act 237 = .ok (.getfield 43, 3) := by decide +kernel
theorem dL_act_240 : decode cL_act 240 = .ok (.invokevirtual 49, 3) := by decide +kernel
theorem dL_act_243 : decode cL_act 243 = .ok (.iload 6, 2) := by decide +kernel
theorem dL_act_245 : decode cL_act 245 = .ok (.if_icmp .ne 7, 3) := by decide +kernel
theorem dL_act_248 : decode cL_act 248 = .ok (.iconst 1, 1) := by decide +kernel
theorem dL_act_249 : decode cL_act 249 = .ok (.goto 4, 3) := by decide +kernel
theorem dL_act_252 : decode cL_act 252 = .ok (.iconst 0, 1) := by decide +kernel
theorem dL_act_253 : decode cL_act 253 = .ok (.ireturn, 1) := by decide +kernel
theorem dL_act_254 : decode cL_act 254 = .ok (.iload_n 2, 1) := by decide +kernel
theorem dL_act_255 : decode cL_act 255 = .ok (.bipush 7, 2) := by decide +kernel
theorem dL_act_257 : decode cL_act 257 = .ok (.invokestatic 15, 3) := by decide +kernel
theorem dL_act_260 : decode cL_act 260 = .ok (.istore 7, 2) := by decide +kernel
theorem dL_act_262 : decode cL_act 262 = .ok (.aload_n 1, 1) := by decide +kernel
theorem dL_act_263 : decode cL_act 263 = .ok (.getfield 52, 3) := by decide +kernel
theorem dL_act_266 : decode cL_act 266 = .ok (.iload 7, 2) := by decide +kernel
theorem dL_act_268 : decode cL_act 268 = .ok (.iaload, 1) := by decide +kernel
theorem dL_act_269 : decode cL_act 269 = .ok (.istore 8, 2) := by decide +kernel
theorem dL_act_271 : decode cL_act 271 = .ok (.aload_n 1, 1) := by decide +kernel
theorem dL_act_272 : decode cL_act 272 = .ok (.getfield 56, 3) := by decide +kernel
theorem dL_act_275 : decode cL_act 275 = .ok (.invokevirtual 59, 3) := by decide +kernel
theorem dL_act_278 : decode cL_act 278 = .ok (.checkcast 60, 3) := by decide +kernel
theorem dL_act_281 : decode cL_act 281 = .ok (.astore 9, 2) := by decide +kernel
theorem dL_act_283 : decode cL_act 283 = .ok (.aload 9, 2) := by decide +kernel
theorem dL_act_285 : decode cL_act 285 = .ok (.iload 7, 2) := by decide +kernel
theorem dL_act_287 : decode cL_act 287 = .ok (.iconst 1, 1) := by decide +kernel
theorem dL_act_288 : decode cL_act 288 = .ok (.iload_n 2, 1) := by decide +kernel
theorem dL_act_289 : decode cL_act 289 = .ok (.iconst 2, 1) := by decide +kernel
theorem dL_act_290 : decode cL_act 290 = .ok (.ishr, 1) := by decide +kernel
theorem dL_act_291 : decode cL_act 291 = .ok (.iload_n 2, 1) := by decide +kernel
theorem dL_act_292 : decode cL_act 292 = .ok (.iconst 5, 1) := by decide +kernel
theorem dL_act_293 : decode cL_act 293 = .ok (.ishr, 1) := by decide +kernel
theorem dL_act_294 : decode cL_act 294 = .ok (.iconst 3, 1) := by decide +kernel
theorem dL_act_295 : decode cL_act 295 = .ok (.invokestatic 15, 3) := by decide +kernel
theorem dL_act_298 : decode cL_act 298 = .ok (.ifCond .ne 9, 3) := by decide +kernel
theorem dL_act_301 : decode cL_act 301 = .ok (.sipush 500, 3) := by decide +kernel
theorem dL_act_304 : decode cL_act 304 = .ok (.goto 5, 3) := by decide +kernel
theorem dL_act_307 : decode cL_act 307 = .ok (.bipush 30, 2) := by decide +kernel
theorem dL_act_309 : decode cL_act 309 = .ok (.invokestatic 15, 3) := by decide +kernel
theorem dL_act_312 : decode cL_act 312 = .ok (.iadd, 1) := by decide +kernel
theorem dL_act_313 : decode cL_act 313 = .ok (.iastore, 1) := by decide +kernel
theorem dL_act_314 : decode cL_act 314 = .ok (.aload_n 1, 1) := by decide +kernel
theorem dL_act_315 : decode cL_act 315 = .ok (.aload 9, 2) := by decide +kernel
theorem dL_act_317 : decode cL_act 317 = .ok (.putfield 56, 3) := by decide +kernel
theorem dL_act_320 : decode cL_act 320 = .ok (.aload_n 1, 1) := by decide +kernel
theorem dL_act_321 : decode cL_act 321 = .ok (.getfield 52, 3) := by decide +kernel
theorem dL_act_324 : decode cL_act 324 = .ok (.iload 7, 2) := by decide +kernel
theorem dL_act_326 : decode cL_act 326 = .ok (.iconst 0, 1) := by decide +kernel
theorem dL_act_327 : decode cL_act 327 = .ok (.iastore, 1) := by decide +kernel
theorem dL_act_328 : decode cL_act 328 = .ok (.aload_n 1, 1) := by decide +kernel
theorem dL_act_329 : decode cL_act 329 = .ok (.getfield 64, 3) := by decide +kernel
theorem dL_act_332 : decode cL_act 332 = .ok (.iload 7, 2) := by decide +kernel
theorem dL_act_334 : decode cL_act 334 = .ok (.iconst 0, 1) := by decide +kernel
theorem dL_act_335 : decode cL_act 335 = .ok (.bastore, 1) := by decide +kernel
theorem dL_act_336 : decode cL_act 336 = .ok (.aload_n 0, 1) := by decide +kernel
theorem dL_act_337 : decode cL_act 337 = .ok (.iload 7, 2) := by decide +kernel
theorem dL_act_339 : decode cL_act 339 = .ok (.aload 9, 2) := by decide +kernel
theorem dL_act_341 : decode cL_act 341 = .ok (.iload 7, 2) := by decide +kernel
theorem dL_act_343 : decode cL_act 343 = .ok (.iaload, 1) := by decide +kernel
theorem dL_act_344 : decode cL_act 344 = .ok (.invokevirtual 68, 3) := by decide +kernel
theorem dL_act_347 : decode cL_act 347 = .ok (.iload 8, 2) := by decide +kernel
theorem dL_act_349 : decode cL_act 349 = .ok (.if_icmp .ne 7, 3) := by decide +kernel
theorem dL_act_352 : decode cL_act 352 = .ok (.iconst 1, 1) := by decide +kernel
theorem dL_act_353 : decode cL_act 353 = .ok (.goto 4, 3) := by decide +kernel
theorem dL_act_356 : decode cL_act 356 = .ok (.iconst 0, 1) := by decide +kernel
theorem dL_act_357 : decode cL_act 357 = .ok (.ireturn, 1) := by decide +kernel
theorem dL_act_358 : decode cL_act 358 = .ok (.iload_n 2, 1) := by decide +kernel
theorem dL_act_359 : decode cL_act 359 = .ok (.iconst 5, 1) := by decide +kernel
theorem dL_act_360 : decode cL_act 360 = .ok (.invokestatic 15, 3) := by decide +kernel
theorem dL_act_363 : decode cL_act 363 = .ok (.istore 10, 2) := by decide +kernel
theorem dL_act_365 : decode cL_act 365 = .ok (.iload_n 2, 1) := by decide +kernel
theorem dL_act_366 : decode cL_act 366 = .ok (.iconst 3, 1) := by decide +kernel
theorem dL_act_367 : decode cL_act 367 = .ok (.ishr, 1) := by decide +kernel
theorem dL_act_368 : decode cL_act 368 = .ok (.bipush 6, 2) := by decide +kernel
theorem dL_act_370 : decode cL_act 370 = .ok (.invokestatic 15, 3) := by decide +kernel
theorem dL_act_373 : decode cL_act 373 = .ok (.istore 11, 2) := by decide +kernel
theorem dL_act_375 : decode cL_act 375 = .ok (.aload_n 1, 1) := by decide +kernel
theorem dL_act_376 : decode cL_act 376 = .ok (.getfield 71, 3) := by decide +kernel
theorem dL_act_379 : decode cL_act 379 = .ok (.iload 10, 2) := by decide +kernel
theorem dL_act_381 : decode cL_act 381 = .ok (.aaload, 1) := by decide +kernel
theorem dL_act_382 : decode cL_act 382 = .ok (.iload 11, 2) := by decide +kernel
theorem dL_act_384 : decode cL_act 384 = .ok (.aload_n 1, 1) := by decide +kernel
theorem dL_act_385 : decode cL_act 385 = .ok (.getfield 71, 3) := by decide +kernel
theorem dL_act_388 : decode cL_act 388 = .ok (.iload 10, 2) := by decide +kernel
theorem dL_act_390 : decode cL_act 390 = .ok (.aaload, 1) := by decide +kernel
theorem dL_act_391 : decode cL_act 391 = .ok (.iload 11, 2) := by decide +kernel
theorem dL_act_393 : decode cL_act 393 = .ok (.baload, 1) := by decide +kernel
theorem dL_act_394 : decode cL_act 394 = .ok (.ifCond .ne 7, 3) := by decide +kernel
theorem dL_act_397 : decode cL_act 397 = .ok (.iconst 1, 1) := by decide +kernel
theorem dL_act_398 : decode cL_act 398 = .ok (.goto 4, 3) := by decide +kernel
theorem dL_act_401 : decode cL_act 401 = .ok (.iconst 0, 1) := by decide +kernel
theorem dL_act_402 : decode cL_act 402 = .ok (.bastore, 1) := by decide +kernel
theorem dL_act_403 : decode cL_act 403 = .ok (.aload_n 0, 1) := by decide +kernel
theorem dL_act_404 : decode cL_act 404 = .ok (.iload 10, 2) := by decide +kernel
theorem dL_act_406 : decode cL_act 406 = .ok (.iload 11, 2) := by decide +kernel
theorem dL_act_408 : decode cL_act 408 = .ok (.invokevirtual 75, 3) := by decide +kernel
theorem dL_act_411 : decode cL_act 411 = .ok (.aload_n 1, 1) := by decide +kernel
theorem dL_act_412 : decode cL_act 412 = .ok (.getfield 71, 3) := by decide +kernel
theorem dL_act_415 : decode cL_act 415 = .ok (.iload 10, 2) := by decide +kernel
theorem dL_act_417 : decode cL_act 417 = .ok (.aaload, 1) := by decide +kernel
theorem dL_act_418 : decode cL_act 418 = .ok (.iload 11, 2) := by decide +kernel
theorem dL_act_420 : decode cL_act 420 = .ok (.baload, 1) := by decide +kernel
theorem dL_act_421 : decode cL_act 421 = .ok (.if_icmp .ne 7, 3) := by decide +kernel
theorem dL_act_424 : decode cL_act 424 = .ok (.iconst 1, 1) := by decide +kernel
theorem dL_act_425 : decode cL_act 425 = .ok (.goto 4, 3) := by decide +kernel
theorem dL_act_428 : decode cL_act 428 = .ok (.iconst 0, 1) := by decide +kernel
theorem dL_act_429 : decode cL_act 429 = .ok (.ireturn, 1) := by decide +kernel
theorem dL_act_430 : decode cL_act 430 = .ok (.iload_n 3, 1) := by decide +kernel
theorem dL_act_431 : decode cL_act 431 = .ok (.bipush 20, 2) := by decide +kernel
theorem dL_act_433 : decode cL_act 433 = .ok (.if_icmp .eq 11, 3) := by decide +kernel
theorem dL_act_436 : decode cL_act 436 = .ok (.aload_n 1, 1) := by decide +kernel
theorem dL_act_437 : decode cL_act 437 = .ok (.getfield 40, 3) := by decide +kernel
theorem dL_act_440 : decode cL_act 440 = .ok (.iconst 5, 1) := by decide +kernel
theorem dL_act_441 : decode cL_act 441 = .ok (.if_icmp .ge 5, 3) := by decide +kernel
theorem dL_act_444 : decode cL_act 444 = .ok (.iconst 1, 1) := by decide +kernel
theorem dL_act_445 : decode cL_act 445 = .ok (.ireturn, 1) := by decide +kernel
theorem dL_act_446 : decode cL_act 446 = .ok (.aload_n 0, 1) := by decide +kernel
theorem dL_act_447 : decode cL_act 447 = .ok (.invokevirtual 79, 3) := by decide +kernel
theorem dL_act_450 : decode cL_act 450 = .ok (.aload_n 1, 1) := by decide +kernel
theorem dL_act_451 : decode cL_act 451 = .ok (.invokevirtual 82, 3) := by decide +kernel
theorem dL_act_454 : decode cL_act 454 = .ok (.if_icmp .ne 7, 3) := by decide +kernel
theorem dL_act_457 : decode cL_act 457 = .ok (.iconst 1, 1) := by decide +kernel
theorem dL_act_458 : decode cL_act 458 = .ok (.goto 4, 3) := by decide +kernel
theorem dL_act_461 : decode cL_act 461 = .ok (.iconst 0, 1) := by decide +kernel
theorem dL_act_462 : decode cL_act 462 = .ok (.ireturn, 1) := by decide +kernel
theorem dL_act_463 : decode cL_act 463 = .ok (.iload_n 3, 1) := by decide +kernel
theorem dL_act_464 : decode cL_act 464 = .ok (.ifCond .ne 5, 3) := by decide +kernel
theorem dL_act_467 : decode cL_act 467 = .ok (.iconst 1, 1) := by decide +kernel
theorem dL_act_468 : decode cL_act 468 = .ok (.ireturn, 1) := by decide +kernel
theorem dL_act_469 : decode cL_act 469 = .ok (.iload_n 2, 1) := by decide +kernel
theorem dL_act_470 : decode cL_act 470 = .ok (.iload_n 3, 1) := by decide +kernel
theorem dL_act_471 : decode cL_act 471 = .ok (.invokestatic 15, 3) := by decide +kernel
theorem dL_act_474 : decode cL_act 474 = .ok (.istore 12, 2) := by decide +kernel
theorem dL_act_476 : decode cL_act 476 = .ok (.iload_n 2, 1) := by decide +kernel
theorem dL_act_477 : decode cL_act 477 = .ok (.iconst 2, 1) := by decide +kernel
theorem dL_act_478 : decode cL_act 478 = .ok (.ishr, 1) := by decide +kernel
theorem dL_act_479 : decode cL_act 479 = .ok (.iconst 5, 1) := by decide +kernel
theorem dL_act_480 : decode cL_act 480 = .ok (.invokestatic 15, 3) := by decide +kernel
theorem dL_act_483 : decode cL_act 483 = .ok (.istore 13, 2) := by decide +kernel
theorem dL_act_485 : decode cL_act 485 = .ok (.iload_n 2, 1) := by decide +kernel
theorem dL_act_486 : decode cL_act 486 = .ok (.iconst 4, 1) := by decide +kernel
theorem dL_act_487 : decode cL_act 487 = .ok (.ishr, 1) := by decide +kernel
theorem dL_act_488 : decode cL_act 488 = .ok (.bipush 6, 2) := by decide +kernel
theorem dL_act_490 : decode cL_act 490 = .ok (.invokestatic 15, 3) := by decide +kernel
theorem dL_act_493 : decode cL_act 493 = .ok (.istore 14, 2) := by decide +kernel
theorem dL_act_495 : decode cL_act 495 = .ok (.aload_n 1, 1) := by decide +kernel
theorem dL_act_496 : decode cL_act 496 = .ok (.getfield 83, 3) := by decide +kernel
theorem dL_act_499 : decode cL_act 499 = .ok (.iload 12, 2) := by decide +kernel
theorem dL_act_501 : decode cL_act 501 = .ok (.aaload, 1) := by decide +kernel
theorem dL_act_502 : decode cL_act 502 = .ok (.iload 13, 2) := by decide +kernel
theorem dL_act_504 : decode cL_act 504 = .ok (.aaload, 1) := by decide +kernel
theorem dL_act_505 : decode cL_act 505 = .ok (.iload 14, 2) := by decide +kernel
theorem dL_act_507 : decode cL_act 507 = .ok (.baload, 1) := by decide +kernel
theorem dL_act_508 : decode cL_act 508 = .ok (.ifCond .eq 5, 3) := by decide +kernel
theorem dL_act_511 : decode cL_act 511 = .ok (.iconst 1, 1) := by decide +kernel
theorem dL_act_512 : decode cL_act 512 = .ok (.ireturn, 1) := by decide +kernel
theorem dL_act_513 : decode cL_act 513 = .ok (.aload_n 1, 1) := by decide +kernel
theorem dL_act_514 : decode cL_act 514 = .ok (.getfield 9, 3) := by decide +kernel
theorem dL_act_517 : decode cL_act 517 = .ok (.iload 12, 2) := by decide +kernel
theorem dL_act_519 : decode cL_act 519 = .ok (.aaload, 1) := by decide +kernel
theorem dL_act_520 : decode cL_act 520 = .ok (.iload 13, 2) := by decide +kernel
theorem dL_act_522 : decode cL_act 522 = .ok (.aaload, 1) := by decide +kernel
theorem dL_act_523 : decode cL_act 523 = .ok (.iload 14, 2) := by decide +kernel
theorem dL_act_525 : decode cL_act 525 = .ok (.iaload, 1) := by decide +kernel
theorem dL_act_526 : decode cL_act 526 = .ok (.iconst 0, 1) := by decide +kernel
theorem dL_act_527 : decode cL_act 527 = .ok (.invokestatic 87, 3) := by decide +kernel
theorem dL_act_530 : decode cL_act 530 = .ok (.istore 15, 2) := by decide +kernel
theorem dL_act_532 : decode cL_act 532 = .ok (.aload_n 1, 1) := by decide +kernel
theorem dL_act_533 : decode cL_act 533 = .ok (.getfield 83, 3) := by decide +kernel
theorem dL_act_536 : decode cL_act 536 = .ok (.iload 12, 2) := by decide +kernel
theorem dL_act_538 : decode cL_act 538 = .ok (.aaload, 1) := by decide +kernel
theorem dL_act_539 : decode cL_act 539 = .ok (.iload 13, 2) := by decide +kernel
theorem dL_act_541 : decode cL_act 541 = .ok (.aaload, 1) := by decide +kernel
theorem dL_act_542 : decode cL_act 542 = .ok (.iload 14, 2) := by decide +kernel
theorem dL_act_544 : decode cL_act 544 = .ok (.iconst 1, 1) := by decide +kernel
theorem dL_act_545 : decode cL_act 545 = .ok (.bastore, 1) := by decide +kernel
theorem dL_act_546 : decode cL_act 546 = .ok (.aload_n 0, 1) := by decide +kernel
theorem dL_act_547 : decode cL_act 547 = .ok (.iload 12, 2) := by decide +kernel
theorem dL_act_549 : decode cL_act 549 = .ok (.iload 13, 2) := by decide +kernel
theorem dL_act_551 : decode cL_act 551 = .ok (.iload 14, 2) := by decide +kernel
theorem dL_act_553 : decode cL_act 553 = .ok (.invokevirtual 91, 3) := by decide +kernel
theorem dL_act_556 : decode cL_act 556 = .ok (.iload 15, 2) := by decide +kernel
theorem dL_act_558 : decode cL_act 558 = .ok (.if_icmp .ne 7, 3) := by decide +kernel
theorem dL_act_561 : decode cL_act 561 = .ok (.iconst 1, 1) := by decide +kernel
theorem dL_act_562 : decode cL_act 562 = .ok (.goto 4, 3) := by decide +kernel
theorem dL_act_565 : decode cL_act 565 = .ok (.iconst 0, 1) := by decide +kernel
theorem dL_act_566 : decode cL_act 566 = .ok (.ireturn, 1) := by decide +kernel
set_option maxRecDepth 20000 in
theorem ggL_build_X5_init : GoodIn wsL_build wsX5_init := goodIn_r _ [5, 6, 7, 8, 9, 10, 11, 12, 13, 14, 15, 16, 17, 18, 19, 20, 172, 173, 174, 175, 176, 177, 178, 179, 180, 181, 182, 183] (by decide +kernel) (by decide +kernel)
set_option maxRecDepth 20000 in
theorem gL_build_X5_init_n95 : GoodIn wsL_build (wsX5_init) := ggL_build_X5_init
set_option maxRecDepth 20000 in
theorem ggL_build_L_cell : GoodIn wsL_build wsL_cell := goodIn_r _ [24, 25] (by decide +kernel) (by decide +kernel)
set_option maxRecDepth 20000 in
theorem gL_build_L_cell : GoodIn wsL_build (va_wsS RL 96 yL_cell wsL_cell) := goodIn_app (goodIn_of _ (by decide +kernel)) ggL_build_L_cell
set_option maxRecDepth 20000 in
theorem ggL_build_L_act_h : GoodIn wsL_build [.code yL_act cL_act 16 (some .boolean)] := goodIn_r _ [28] (by decide +kernel) (by decide +kernel)
theorem ggL_build_L_act_wsL_act_r1 : GoodIn wsL_build wsL_act_r1 := goodIn_r _ [29, 30, 31, 32, 33, 34, 35, 36, 37, 38, 39, 40, 41, 42, 43, 44, 45, 46, 47, 48, 23, 49, 50, 51] (by decide +kernel) (by decide +kernel)
theorem ggL_build_L_act_wsL_act_r2 : GoodIn wsL_build wsL_act_r2 := goodIn_r _ [52, 53, 54, 55, 56, 57, 58, 59, 60, 61, 62, 63, 64, 65, 66, 67, 68, 69, 70, 71, 72, 73, 74, 75] (by decide +kernel) (by decide +kernel)
theorem ggL_build_L_act_wsL_act_r3 : GoodIn wsL_build wsL_act_r3 := goodIn_r _ [76, 77, 78, 79, 80, 81, 82, 83, 84, 85, 86, 87, 88, 89, 90, 91, 92, 93, 94, 95, 96, 97, 98, 99] (by decide +kernel) (by decide +kernel)
theorem ggL_build_L_act_wsL_act_r4 : GoodIn wsL_build wsL_act_r4 := goodIn_r _ [100, 101, 102, 103, 104, 105, 106, 107, 108, 109, 110, 111, 112, 113, 114, 115, 116, 117, 118, 119, 120, 121, 122, 123] (by decide +kernel) (by decide +kernel)
theorem ggL_build_L_act_wsL_act_r5 : GoodIn wsL_build wsL_act_r5 := goodIn_r _ [124, 125, 126, 127, 128, 129, 130, 131, 132, 133, 134, 135, 136, 137, 138, 139, 140, 141, 142, 143, 144, 3, 145, 19] (by decide +kernel) (by decide +kernel)
theorem ggL_build_L_act_wsL_act_r6 : GoodIn wsL_build wsL_act_r6 := goodIn_r _ [18, 20, 16, 14, 146, 147, 148, 149, 11, 150, 9, 15, 17, 151, 10, 13, 12, 152, 153, 154, 155, 156, 157, 158] (by decide +kernel) (by decide +kernel)
theorem ggL_build_L_act_wsL_act_r7 : GoodIn wsL_build wsL_act_r7 := goodIn_r _ [159, 160, 161, 162, 163, 164, 165, 166, 167, 168, 169, 170, 171] (by decide +kernel) (by decide +kernel)
theorem ggL_build_L_act_wsX50 : GoodIn wsL_build wsX50 := goodIn_r _ [172, 173, 174, 175, 176, 177, 178, 179, 180, 181, 182, 183] (by decide +kernel) (by decide +kernel)
theorem ggL_build_L_act_wsX40 : GoodIn wsL_build wsX40 := goodIn_r _ [184, 185, 186, 187, 188] (by decide +kernel) (by decide +kernel)
theorem ggL_build_L_act_wsX00 : GoodIn wsL_build wsX00 := goodIn_r _ [189, 190, 191, 192, 193, 194, 195] (by decide +kernel) (by decide +kernel)
