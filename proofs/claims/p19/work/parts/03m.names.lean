set_option maxRecDepth 20000 in
theorem gL_law_X5_run : GoodIn wsL_law (wsV RL 82 RX5 yX5_run wsX5_run) := goodIn_app (goodIn_of _ (by decide +kernel)) ggL_law_X5_run
set_option maxRecDepth 20000 in
theorem ggL_law_L_act_h : GoodIn wsL_law [.code yL_act cL_act 16 (some .boolean)] := goodIn_r _ [84] (by decide +kernel) (by decide +kernel)
theorem ggL_law_L_act_wsL_act_r1 : GoodIn wsL_law wsL_act_r1 := goodIn_r _ [85, 86, 87, 88, 89, 90, 91, 92, 93, 94, 95, 96, 97, 98, 99, 100, 101, 102, 103, 104, 60, 105, 106, 107] (by decide +kernel) (by decide +kernel)
theorem ggL_law_L_act_wsL_act_r2 : GoodIn wsL_law wsL_act_r2 := goodIn_r _ [108, 109, 2, 110, 111, 112, 17, 113, 114, 115, 116, 117, 118, 119, 120, 121, 122, 123, 124, 125, 126, 127, 128, 129] (by decide +kernel) (by decide +kernel)
theorem ggL_law_L_act_wsL_act_r3 : GoodIn wsL_law wsL_act_r3 := goodIn_r _ [130, 131, 132, 133, 134, 135, 136, 23, 137, 138, 139, 140, 141, 142, 143, 144, 145, 146, 25, 147, 148, 149, 16, 150] (by decide +kernel) (by decide +kernel)
theorem ggL_law_L_act_wsL_act_r4 : GoodIn wsL_law wsL_act_r4 := goodIn_r _ [151, 32, 152, 153, 154, 155, 156, 6, 157, 158, 5, 7, 159, 160, 161, 162, 163, 164, 165, 166, 35, 167, 168, 169] (by decide +kernel) (by decide +kernel)
theorem ggL_law_L_act_wsL_act_r5 : GoodIn wsL_law wsL_act_r5 := goodIn_r _ [37, 170, 171, 41, 172, 173, 174, 175, 33, 176, 177, 178, 179, 180, 181, 182, 183, 184, 185, 186, 187, 64, 188, 76] (by decide +kernel) (by decide +kernel)
theorem ggL_law_L_act_wsL_act_r6 : GoodIn wsL_law wsL_act_r6 := goodIn_r _ [75, 77, 73, 22, 189, 190, 191, 192, 3, 193, 68, 72, 74, 194, 69, 71, 70, 195, 196, 197, 198, 199, 200, 201] (by decide +kernel) (by decide +kernel)
theorem ggL_law_L_act_wsL_act_r7 : GoodIn wsL_law wsL_act_r7 := goodIn_r _ [202, 203, 204, 205, 206, 207, 208, 209, 210, 27, 211, 55, 56] (by decide +kernel) (by decide +kernel)
theorem ggL_law_L_act_wsX50 : GoodIn wsL_law wsX50 := goodIn_r _ [378, 379, 380, 381, 382, 383, 384, 385, 386, 387, 388, 389] (by decide +kernel) (by decide +kernel)
theorem ggL_law_L_act_wsX40 : GoodIn wsL_law wsX40 := goodIn_r _ [358, 359, 360, 361, 362] (by decide +kernel) (by decide +kernel)
theorem ggL_law_L_act_wsX00 : GoodIn wsL_law wsX00 := goodIn_r _ [363, 364, 365, 366, 367, 368, 369] (by decide +kernel) (by decide +kernel)
theorem ggL_law_L_act_wsX10 : GoodIn wsL_law wsX10 := goodIn_r _ [376, 377] (by decide +kernel) (by decide +kernel)
theorem ggL_law_L_act_wsX20 : GoodIn wsL_law wsX20 := goodIn_r _ [374, 375] (by decide +kernel) (by decide +kernel)
theorem ggL_law_L_act : GoodIn wsL_law wsL_act := (goodIn_app ggL_law_L_act_h (goodIn_app (goodIn_app (goodIn_app (goodIn_app (goodIn_app (goodIn_app (goodIn_app (goodIn_app (goodIn_app ggL_law_L_act_wsL_act_r1 (goodIn_app ggL_law_L_act_wsL_act_r2 (goodIn_app ggL_law_L_act_wsL_act_r3 (goodIn_app ggL_law_L_act_wsL_act_r4 (goodIn_app ggL_law_L_act_wsL_act_r5 (goodIn_app ggL_law_L_act_wsL_act_r6 ggL_law_L_act_wsL_act_r7)))))) ggL_law_L_act_wsX50) ggL_law_L_act_wsX40) ggL_law_L_act_wsX00) ggL_law_L_act_wsX10) ggL_law_L_act_wsX20) (goodIn_sub (fun _ h => List.mem_append_left _ (List.mem_append_left _ (List.mem_append_right _ h))) (by decide +kernel))) (goodIn_sub (fun _ h => List.mem_append_left _ (List.mem_append_right _ h)) (by decide +kernel))) (goodIn_sub (fun _ h => List.mem_append_right _ h) (by decide +kernel))))
set_option maxRecDepth 20000 in
theorem gL_law_L_act : GoodIn wsL_law (va_wsS RL 100 yL_act wsL_act) := goodIn_app (goodIn_of _ (by decide +kernel)) ggL_law_L_act
set_option maxRecDepth 20000 in
theorem ggL_law_X4_share : GoodIn wsL_law wsX4_share := goodIn_r _ [329, 146, 330, 331, 332, 2, 333, 25, 334, 275, 276, 27, 277, 278, 279, 280, 281, 56, 55, 358, 359, 360, 361, 362, 374, 375] (by decide +kernel) (by decide +kernel)
set_option maxRecDepth 20000 in
theorem gL_law_X4_share : GoodIn wsL_law (wsV RL 130 RX4 yX4_share wsX4_share) := goodIn_app (goodIn_of _ (by decide +kernel)) ggL_law_X4_share
set_option maxRecDepth 20000 in
theorem ggL_law_X4_like : GoodIn wsL_law wsX4_like := goodIn_ca (goodIn_r _ [338, 111, 112, 113, 114, 2, 115, 330, 331, 332, 333, 146, 25, 334, 275, 276, 27, 277, 278, 279, 280, 281, 56, 55, 358, 359, 360, 361, 362, 374, 375] (by decide +kernel) (by decide +kernel)) (goodIn_sub (fun _ h => List.mem_append_left _ (List.mem_append_left _ (List.mem_append_right _ h))) (by decide +kernel))
set_option maxRecDepth 20000 in
theorem gL_law_X4_like : GoodIn wsL_law (wsV RL 134 RX4 yX4_like wsX4_like) := goodIn_app (goodIn_of _ (by decide +kernel)) ggL_law_X4_like
set_option maxRecDepth 20000 in
theorem ggL_law_X5_isSame_h : GoodIn wsL_law [.code yX5_isSame cX5_isSame 13 (some .boolean)] := goodIn_r _ [342] (by decide +kernel) (by decide +kernel)
theorem ggL_law_X5_isSame_wsX5_isSame_r1 : GoodIn wsL_law wsX5_isSame_r1 := goodIn_r _ [76, 3, 70, 71, 72, 74, 68, 196, 193, 195, 69, 194, 343, 289, 290, 2, 291, 25, 204, 205, 206, 207, 131, 132] (by decide +kernel) (by decide +kernel)
theorem ggL_law_X5_isSame_wsX5_isSame_r2 : GoodIn wsL_law wsX5_isSame_r2 := goodIn_r _ [146, 113, 114, 115, 216, 217, 218, 292, 293, 294, 27, 295, 296, 297, 298, 299, 56, 300, 275, 276, 277, 278, 279, 280] (by decide +kernel) (by decide +kernel)
theorem ggL_law_X5_isSame_wsX5_isSame_r3 : GoodIn wsL_law wsX5_isSame_r3 := goodIn_r _ [281, 55, 301, 236, 237, 238, 239, 209, 210, 211, 302, 303, 304, 305, 306, 307, 308, 309, 310, 311, 312, 313, 314, 315] (by decide +kernel) (by decide +kernel)
theorem ggL_law_X5_isSame_wsX5_isSame_r4 : GoodIn wsL_law wsX5_isSame_r4 := goodIn_r _ [316, 317, 318, 5, 6, 7, 319, 320, 321, 322, 323, 324, 325, 344, 345, 346, 64, 347, 77, 22, 348, 349, 198, 199] (by decide +kernel) (by decide +kernel)
theorem ggL_law_X5_isSame_wsX5_isSame_r5 : GoodIn wsL_law wsX5_isSame_r5 := goodIn_r _ [350, 241, 242, 243, 137, 138, 139, 351, 245, 246, 247, 17, 128, 129, 130, 248, 249, 250, 37, 251, 41, 171, 184, 168] (by decide +kernel) (by decide +kernel)
theorem ggL_law_X5_isSame_wsX5_isSame_r6 : GoodIn wsL_law wsX5_isSame_r6 := goodIn_r _ [169, 170, 352, 353, 354, 355, 356, 213, 214, 215, 219, 220, 221, 222, 223, 224, 225, 16, 226, 35, 167, 227, 228, 229] (by decide +kernel) (by decide +kernel)
theorem ggL_law_X5_isSame_wsX5_isSame_r7 : GoodIn wsL_law wsX5_isSame_r7 := goodIn_r _ [230, 23, 231, 232, 233, 234, 235, 357, 327, 328, 329, 330, 331, 332, 333, 334] (by decide +kernel) (by decide +kernel)
theorem ggL_law_X5_isSame_wsX50 : GoodIn wsL_law wsX50 := goodIn_r _ [378, 379, 380, 381, 382, 383, 384, 385, 386, 387, 388, 389] (by decide +kernel) (by decide +kernel)
theorem ggL_law_X5_isSame_wsX40 : GoodIn wsL_law wsX40 := goodIn_r _ [358, 359, 360, 361, 362] (by decide +kernel) (by decide +kernel)
theorem ggL_law_X5_isSame_wsX20 : GoodIn wsL_law wsX20 := goodIn_r _ [374, 375] (by decide +kernel) (by decide +kernel)
theorem ggL_law_X5_isSame_wsX00 : GoodIn wsL_law wsX00 := goodIn_r _ [363, 364, 365, 366, 367, 368, 369] (by decide +kernel) (by decide +kernel)
theorem ggL_law_X5_isSame_wsX10 : GoodIn wsL_law wsX10 := goodIn_r _ [376, 377] (by decide +kernel) (by decide +kernel)
theorem ggL_law_X5_isSame : GoodIn wsL_law wsX5_isSame := (goodIn_app ggL_law_X5_isSame_h (goodIn_app (goodIn_app (goodIn_app (goodIn_app (goodIn_app (goodIn_app (goodIn_app ggL_law_X5_isSame_wsX5_isSame_r1 (goodIn_app ggL_law_X5_isSame_wsX5_isSame_r2 (goodIn_app ggL_law_X5_isSame_wsX5_isSame_r3 (goodIn_app ggL_law_X5_isSame_wsX5_isSame_r4 (goodIn_app ggL_law_X5_isSame_wsX5_isSame_r5 (goodIn_app ggL_law_X5_isSame_wsX5_isSame_r6 ggL_law_X5_isSame_wsX5_isSame_r7)))))) ggL_law_X5_isSame_wsX50) ggL_law_X5_isSame_wsX40) ggL_law_X5_isSame_wsX20) ggL_law_X5_isSame_wsX00) ggL_law_X5_isSame_wsX10) (goodIn_sub (fun _ h => List.mem_append_left _ (List.mem_append_right _ h)) (by decide +kernel))))
set_option maxRecDepth 20000 in
theorem gL_law_X5_isSame : GoodIn wsL_law (wsV RL 137 RX5 yX5_isSame wsX5_isSame) := goodIn_app (goodIn_of _ (by decide +kernel)) ggL_law_X5_isSame
theorem dL_law_0 : decode cL_law 0 = .ok (.new 29, 3) := by decide +kernel
theorem dL_law_3 : decode cL_law 3 = .ok (.dup, 1) := by decide +kernel
theorem dL_law_4 : decode cL_law 4 = .ok (.invokespecial 104, 3) := by decide +kernel
theorem dL_law_7 : decode cL_law 7 = .ok (.astore_n 1, 1) := by decide +kernel
theorem dL_law_8 : decode cL_law 8 = .ok (.aload_n 1, 1) := by decide +kernel
theorem dL_law_9 : decode cL_law 9 = .ok (.aload_n 0, 1) := by decide +kernel
theorem dL_law_10 : decode cL_law 10 = .ok (.invokestatic 105, 3) := by decide +kernel
theorem dL_law_13 : decode cL_law 13 = .ok (.astore_n 2, 1) := by decide +kernel
theorem dL_law_14 : decode cL_law 14 = .ok (.aload_n 2, 1) := by decide +kernel
theorem dL_law_15 : decode cL_law 15 = .ok (.ifnonnull 5, 3) := by decide +kernel
theorem dL_law_18 : decode cL_law 18 = .ok (.iconst 0, 1) := by decide +kernel
theorem dL_law_19 : decode cL_law 19 = .ok (.ireturn, 1) := by decide +kernel
theorem dL_law_20 : decode cL_law 20 = .ok (.iconst 0, 1) := by decide +kernel
theorem dL_law_21 : decode cL_law 21 = .ok (.istore_n 3, 1) := by decide +kernel
theorem dL_law_22 : decode cL_law 22 = .ok (.iload_n 3, 1) := by decide +kernel
theorem dL_law_23 : decode cL_law 23 = .ok (.bipush 30, 2) := by decide +kernel
theorem dL_law_25 : decode cL_law 25 = .ok (.if_icmp .ge 818, 3) := by decide +kernel
theorem dL_law_28 : decode cL_law 28 = .ok (.aload_n 0, 1) := by decide +kernel
theorem dL_law_29 : decode cL_law 29 = .ok (.iload_n 3, 1) := by decide +kernel
theorem dL_law_30 : decode cL_law 30 = .ok (.bipush 16, 2) := by decide +kernel
theorem dL_law_32 : decode cL_law 32 = .ok (.irem, 1) := by decide +kernel
theorem dL_law_33 : decode cL_law 33 = .ok (.invokestatic 96, 3) := by decide +kernel
theorem dL_law_36 : decode cL_law 36 = .ok (.iload_n 3, 1) := by decide +kernel
theorem dL_law_37 : decode cL_law 37 = .ok (.bipush 16, 2) := by decide +kernel
theorem dL_law_39 : decode cL_law 39 = .ok (.idiv, 1) := by decide +kernel
theorem dL_law_40 : decode cL_law 40 = .ok (.iconst 3, 1) := by decide +kernel
theorem dL_law_41 : decode cL_law 41 = .ok (.imul, 1) := by decide +kernel
theorem dL_law_42 : decode cL_law 42 = .ok (.ishr, 1) := by decide +kernel
theorem dL_law_43 : decode cL_law 43 = .ok (.sipush 167, 3) := by decide +kernel
theorem dL_law_46 : decode cL_law 46 = .ok (.iload_n 3, 1) := by decide +kernel
theorem dL_law_47 : decode cL_law 47 = .ok (.imul, 1) := by decide +kernel
theorem dL_law_48 : decode cL_law 48 = .ok (.iadd, 1) := by decide +kernel
theorem dL_law_49 : decode cL_law 49 = .ok (.istore 4, 2) := by decide +kernel
theorem dL_law_51 : decode cL_law 51 = .ok (.aload_n 1, 1) := by decide +kernel
theorem dL_law_52 : decode cL_law 52 = .ok (.iconst 0, 1) := by decide +kernel
theorem dL_law_53 : decode cL_law 53 = .ok (.invokevirtual 109, 3) := by decide +kernel
theorem dL_law_56 : decode cL_law 56 = .ok (.istore 5, 2) := by decide +kernel
theorem dL_law_58 : decode cL_law 58 = .ok (.iload 5, 2) := by decide +kernel
theorem dL_law_60 : decode cL_law 60 = .ok (.ifCond .ne 7, 3) := by decide +kernel
theorem dL_law_63 : decode cL_law 63 = .ok (.iconst (-1), 1) := by decide +kernel
theorem dL_law_64 : decode cL_law 64 = .ok (.goto 12, 3) := by decide +kernel
theorem dL_law_67 : decode cL_law 67 = .ok (.iload 4, 2) := by decide +kernel
theorem dL_law_69 : decode cL_law 69 = .ok (.iconst 3, 1) := by decide +kernel
theorem dL_law_70 : decode cL_law 70 = .ok (.ishr, 1) := by decide +kernel
theorem dL_law_71 : decode cL_law 71 = .ok (.iload 5, 2) := by decide +kernel
theorem dL_law_73 : decode cL_law 73 = .ok (.invokestatic 15, 3) := by decide +kernel
theorem dL_law_76 : decode cL_law 76 = .ok (.istore 6, 2) := by decide +kernel
theorem dL_law_78 : decode cL_law 78 = .ok (.bipush 30, 2) := by decide +kernel
theorem dL_law_80 : decode cL_law 80 = .ok (.newarray .int, 2) := by decide +kernel
theorem dL_law_82 : decode cL_law 82 = .ok (.astore 7, 2) := by decide +kernel
theorem dL_law_84 : decode cL_law 84 = .ok (.iconst 0, 1) := by decide +kernel
theorem dL_law_85 : decode cL_law 85 = .ok (.istore 8, 2) := by decide +kernel
theorem dL_law_87 : decode cL_law 87 = .ok (.iload 8, 2) := by decide +kernel
theorem dL_law_89 : decode cL_law 89 = .ok (.bipush 30, 2) := by decide +kernel
theorem dL_law_91 : decode cL_law 91 = .ok (.if_icmp .ge 35, 3) := by decide +kernel
theorem dL_law_94 : decode cL_law 94 = .ok (.iload 6, 2) := by decide +kernel
theorem dL_law_96 : decode cL_law 96 = .ok (.ifCond .lt 30, 3) := by decide +kernel
theorem dL_law_99 : decode cL_law 99 = .ok (.aload 7, 2) := by decide +kernel
theorem dL_law_101 : decode cL_law 101 = .ok (.iload 8, 2) := by decide +kernel
theorem dL_law_103 : decode cL_law 103 = .ok (.aload_n 1, 1) := by decide +kernel
theorem dL_law_104 : decode cL_law 104 = .ok (.iload 6, 2) := by decide +kernel
theorem dL_law_106 : decode cL_law 106 = .ok (.iload 8, 2) := by decide +kernel
theorem dL_law_108 : decode cL_law 108 = .ok (.bipush 6, 2) := by decide +kernel
theorem dL_law_110 : decode cL_law 110 = .ok (.idiv, 1) := by decide +kernel
theorem dL_law_111 : decode cL_law 111 = .ok (.iload 8, 2) := by decide +kernel
theorem dL_law_113 : decode cL_law 113 = .ok (.bipush 6, 2) := by decide +kernel
theorem dL_law_115 : decode cL_law 115 = .ok (.irem, 1) := by decide +kernel
theorem dL_law_116 : decode cL_law 116 = .ok (.invokevirtual 113, 3) := by decide +kernel
theorem dL_law_119 : decode cL_law 119 = .ok (.iastore, 1) := by decide +kernel
theorem dL_law_120 : decode cL_law 120 = .ok (.iinc 8 1, 3) := by decide +kernel
theorem dL_law_123 : decode cL_law 123 = .ok (.goto (-36), 3) := by decide +kernel
theorem dL_law_126 : decode cL_law 126 = .ok (.bipush 7, 2) := by decide +kernel
theorem dL_law_128 : decode cL_law 128 = .ok (.newarray .int, 2) := by decide +kernel
theorem dL_law_130 : decode cL_law 130 = .ok (.astore 8, 2) := by decide +kernel
theorem dL_law_132 : decode cL_law 132 = .ok (.iconst 0, 1) := by decide +kernel
theorem dL_law_133 : decode cL_law 133 = .ok (.istore 9, 2) := by decide +kernel
theorem dL_law_135 : decode cL_law 135 = .ok (.iload 9, 2) := by decide +kernel
theorem dL_law_137 : decode cL_law 137 = .ok (.bipush 7, 2) := by decide +kernel
theorem dL_law_139 : decode cL_law 139 = .ok (.if_icmp .ge 21, 3) := by decide +kernel
theorem dL_law_142 : decode cL_law 142 = .ok (.aload 8, 2) := by decide +kernel
theorem dL_law_144 : decode cL_law 144 = .ok (.iload 9, 2) := by decide +kernel
theorem dL_law_146 : decode cL_law 146 = .ok (.aload_n 1, 1) := by decide +kernel
theorem dL_law_147 : decode cL_law 147 = .ok (.iload 9, 2) := by decide +kernel
theorem dL_law_149 : decode cL_law 149 = .ok (.iconst 3, 1) := by decide +kernel
theorem dL_law_150 : decode cL_law 150 = .ok (.invokevirtual 116, 3) := by decide +kernel
theorem dL_law_153 : decode cL_law 153 = .ok (.iastore, 1) := by decide +kernel
theorem dL_law_154 : decode cL_law 154 = .ok (.iinc 9 1, 3) := by decide +kernel
theorem dL_law_157 : decode cL_law 157 = .ok (.goto (-22), 3) := by decide +kernel
theorem dL_law_160 : decode cL_law 160 = .ok (.aload_n 1, 1) := by decide +kernel
theorem dL_law_161 : decode cL_law 161 = .ok (.iconst 4, 1) := by decide +kernel
theorem dL_law_162 : decode cL_law 162 = .ok (.invokevirtual 109, 3) := by decide +kernel
theorem dL_law_165 : decode cL_law 165 = .ok (.istore 9, 2) := by decide +kernel
theorem dL_law_167 : decode cL_law 167 = .ok (.aload_n 1, 1) := by decide +kernel
theorem dL_law_168 : decode cL_law 168 = .ok (.bipush 6, 2) := by decide +kernel
theorem dL_law_170 : decode cL_law 170 = .ok (.invokevirtual 109, 3) := by decide +kernel
theorem dL_law_173 : decode cL_law 173 = .ok (.istore 10, 2) := by decide +kernel
theorem dL_law_175 : decode cL_law 175 = .ok (.iload_n 3, 1) := by decide +kernel
theorem dL_law_176 : decode cL_law 176 = .ok (.iconst 2, 1) := by decide +kernel
theorem dL_law_177 : decode cL_law 177 = .ok (.irem, 1) := by decide +kernel
theorem dL_law_178 : decode cL_law 178 = .ok (.iconst 1, 1) := by decide +kernel
theorem dL_law_179 : decode cL_law 179 = .ok (.if_icmp .ne 20, 3) := by decide +kernel
theorem dL_law_182 : decode cL_law 182 = .ok (.iload 9, 2) := by decide +kernel
theorem dL_law_184 : decode cL_law 184 = .ok (.iconst 5, 1) := by decide +kernel
theorem dL_law_185 : decode cL_law 185 = .ok (.if_icmp .lt 14, 3) := by decide +kernel
theorem dL_law_188 : decode cL_law 188 = .ok (.iload 5, 2) := by decide +kernel
theorem dL_law_190 : decode cL_law 190 = .ok (.bipush 20, 2) := by decide +kernel
theorem dL_law_192 : decode cL_law 192 = .ok (.if_icmp .ge 7, 3) := by decide +kernel
theorem dL_law_195 : decode cL_law 195 = .ok (.iconst 1, 1) := by decide +kernel
theorem dL_law_196 : decode cL_law 196 = .ok (.goto 4, 3) := by decide +kernel
theorem dL_law_199 : decode cL_law 199 = .ok (.iconst 0, 1) := by decide +kernel
theorem dL_law_200 : decode cL_law 200 = .ok (.istore 11, 2) := by decide +kernel
theorem dL_law_202 : decode cL_law 202 = .ok (.aload_n 1, 1) := by decide +kernel
theorem dL_law_203 : decode cL_law 203 = .ok (.iconst 1, 1) := by decide +kernel
theorem dL_law_204 : decode cL_law 204 = .ok (.iconst 0, 1) := by decide +kernel
theorem dL_law_205 : decode cL_law 205 = .ok (.invokevirtual 119, 3) := by decide +kernel
theorem dL_law_208 : decode cL_law 208 = .ok (.istore 12, 2) := by decide +kernel
theorem dL_law_210 : decode cL_law 210 = .ok (.aload_n 1, 1) := by decide +kernel
theorem dL_law_211 : decode cL_law 211 = .ok (.iconst 1, 1) := by decide +kernel
theorem dL_law_212 : decode cL_law 212 = .ok (.iconst 1, 1) := by decide +kernel
theorem dL_law_213 : decode cL_law 213 = .ok (.invokevirtual 119, 3) := by decide +kernel
theorem dL_law_216 : decode cL_law 216 = .ok (.istore 13, 2) := by decide +kernel
theorem dL_law_218 : decode cL_law 218 = .ok (.aload_n 1, 1) := by decide +kernel
theorem dL_law_219 : decode cL_law 219 = .ok (.iconst 1, 1) := by decide +kernel
theorem dL_law_220 : decode cL_law 220 = .ok (.iconst 2, 1) := by decide +kernel
theorem dL_law_221 : decode cL_law 221 = .ok (.invokevirtual 119, 3) := by decide +kernel
theorem dL_law_224 : decode cL_law 224 = .ok (.istore 14, 2) := by decide +kernel
theorem dL_law_226 : decode cL_law 226 = .ok (.aload_n 1, 1) := by decide +kernel
theorem dL_law_227 : decode cL_law 227 = .ok (.iconst 1, 1) := by decide +kernel
theorem dL_law_228 : decode cL_law 228 = .ok (.iconst 3, 1) := by decide +kernel
theorem dL_law_229 : decode cL_law 229 = .ok (.invokevirtual 119, 3) := by decide +kernel
theorem dL_law_232 : decode cL_law 232 = .ok (.istore 15, 2) := by decide +kernel
theorem dL_law_234 : decode cL_law 234 = .ok (.iload 11, 2) := by decide +kernel
theorem dL_law_236 : decode cL_law 236 = .ok (.ifCond .eq 167, 3) := by decide +kernel
theorem dL_law_239 : decode cL_law 239 = .ok (.aload_n 1, 1) := by decide +kernel
theorem dL_law_240 : decode cL_law 240 = .ok (.invokevirtual 79, 3) := by decide +kernel
theorem dL_law_243 : decode cL_law 243 = .ok (.iload 5, 2) := by decide +kernel
theorem dL_law_245 : decode cL_law 245 = .ok (.if_icmp .ne 85, 3) := by decide +kernel
theorem dL_law_248 : decode cL_law 248 = .ok (.aload_n 1, 1) := by decide +kernel
theorem dL_law_249 : decode cL_law 249 = .ok (.iload 5, 2) := by decide +kernel
theorem dL_law_251 : decode cL_law 251 = .ok (.iconst 0, 1) := by decide +kernel
theorem dL_law_252 : decode cL_law 252 = .ok (.invokevirtual 122, 3) := by decide +kernel
theorem dL_law_255 : decode cL_law 255 = .ok (.bipush 30, 2) := by decide +kernel
theorem dL_law_257 : decode cL_law 257 = .ok (.if_icmp .ne 73, 3) := by decide +kernel
theorem dL_law_260 : decode cL_law 260 = .ok (.aload_n 1, 1) := by decide +kernel
theorem dL_law_261 : decode cL_law 261 = .ok (.iload 5, 2) := by decide +kernel
theorem dL_law_263 : decode cL_law 263 = .ok (.iconst 1, 1) := by decide +kernel
theorem dL_law_264 : decode cL_law 264 = .ok (.invokevirtual 122, 3) := by decide +kernel
theorem dL_law_267 : decode cL_law 267 = .ok (.iload 12, 2) := by decide +kernel
theorem dL_law_269 : decode cL_law 269 = .ok (.if_icmp .ne 61, 3) := by decide +kernel
theorem dL_law_272 : decode cL_law 272 = .ok (.aload_n 1, 1) := by decide +kernel
theorem dL_law_273 : decode cL_law 273 = .ok (.iload 5, 2) := by decide +kernel
theorem dL_law_275 : decode cL_law 275 = .ok (.iconst 2, 1) := by decide +kernel
theorem dL_law_276 : decode cL_law 276 = .ok (.invokevirtual 122, 3) := by decide +kernel
theorem dL_law_279 : decode cL_law 279 = .ok (.iload 13, 2) := by decide +kernel
theorem dL_law_281 : decode cL_law 281 = .ok (.if_icmp .ne 49, 3) := by decide +kernel
theorem dL_law_284 : decode cL_law 284 = .ok (.aload_n 1, 1) := by decide +kernel
theorem dL_law_285 : decode cL_law 285 = .ok (.bipush 7, 2) := by decide +kernel
theorem dL_law_287 : decode cL_law 287 = .ok (.invokevirtual 109, 3) := by decide +kernel
theorem dL_law_290 : decode cL_law 290 = .ok (.iload 14, 2) := by decide +kernel
theorem dL_law_292 : decode cL_law 292 = .ok (.if_icmp .ne 38, 3) := by decide +kernel
theorem dL_law_295 : decode cL_law 295 = .ok (.aload_n 1, 1) := by decide +kernel
theorem dL_law_296 : decode cL_law 296 = .ok (.iconst 3, 1) := by decide +kernel
theorem dL_law_297 : decode cL_law 297 = .ok (.invokevirtual 109, 3) := by decide +kernel
theorem dL_law_300 : decode cL_law 300 = .ok (.iload 15, 2) := by decide +kernel
theorem dL_law_302 : decode cL_law 302 = .ok (.if_icmp .ne 28, 3) := by decide +kernel
theorem dL_law_305 : decode cL_law 305 = .ok (.aload_n 1, 1) := by decide +kernel
theorem dL_law_306 : decode cL_law 306 = .ok (.iconst 4, 1) := by decide +kernel
theorem dL_law_307 : decode cL_law 307 = .ok (.invokevirtual 109, 3) := by decide +kernel
theorem dL_law_310 : decode cL_law 310 = .ok (.iload 9, 2) := by decide +kernel
theorem dL_law_312 : decode cL_law 312 = .ok (.iconst 5, 1) := by decide +kernel
theorem dL_law_313 : decode cL_law 313 = .ok (.isub, 1) := by decide +kernel
theorem dL_law_314 : decode cL_law 314 = .ok (.if_icmp .ne 16, 3) := by decide +kernel
theorem dL_law_317 : decode cL_law 317 = .ok (.aload_n 1, 1) := by decide +kernel
theorem dL_law_318 : decode cL_law 318 = .ok (.bipush 6, 2) := by decide +kernel
theorem dL_law_320 : decode cL_law 320 = .ok (.invokevirtual 109, 3) := by decide +kernel
theorem dL_law_323 : decode cL_law 323 = .ok (.iload 10, 2) := by decide +kernel
theorem dL_law_325 : decode cL_law 325 = .ok (.iconst 5, 1) := by decide +kernel
theorem dL_law_326 : decode cL_law 326 = .ok (.iadd, 1) := by decide +kernel
theorem dL_law_327 : decode cL_law 327 = .ok (.if_icmp .eq 5, 3) := by decide +kernel
theorem dL_law_330 : decode cL_law 330 = .ok (.iconst 0, 1) := by decide +kernel
theorem dL_law_331 : decode cL_law 331 = .ok (.ireturn, 1) := by decide +kernel
theorem dL_law_332 : decode cL_law 332 = .ok (.aload_n 2, 1) := by decide +kernel
theorem dL_law_333 : decode cL_law 333 = .ok (.invokevirtual 82, 3) := by decide +kernel
theorem dL_law_336 : decode cL_law 336 = .ok (.pop, 1) := by decide +kernel
theorem dL_law_337 : decode cL_law 337 = .ok (.iconst 0, 1) := by decide +kernel
theorem dL_law_338 : decode cL_law 338 = .ok (.istore 16, 2) := by decide +kernel
theorem dL_law_340 : decode cL_law 340 = .ok (.iload 16, 2) := by decide +kernel
theorem dL_law_342 : decode cL_law 342 = .ok (.bipush 7, 2) := by decide +kernel
theorem dL_law_344 : decode cL_law 344 = .ok (.if_icmp .ge 56, 3) := by decide +kernel
theorem dL_law_347 : decode cL_law 347 = .ok (.aload_n 1, 1) := by decide +kernel
theorem dL_law_348 : decode cL_law 348 = .ok (.iload 16, 2) := by decide +kernel
theorem dL_law_350 : decode cL_law 350 = .ok (.iconst 3, 1) := by decide +kernel
theorem dL_law_351 : decode cL_law 351 = .ok (.invokevirtual 116, 3) := by decide +kernel
theorem dL_law_354 : decode cL_law 354 = .ok (.iconst 0, 1) := by decide +kernel
theorem dL_law_355 : decode cL_law 355 = .ok (.aload 8, 2) := by decide +kernel
theorem dL_law_357 : decode cL_law 357 = .ok (.iload 16, 2) := by decide +kernel
theorem dL_law_359 : decode cL_law 359 = .ok (.iaload, 1) := by decide +kernel
theorem dL_law_360 : decode cL_law 360 = .ok (.iconst 5, 1) := by decide +kernel
theorem dL_law_361 : decode cL_law 361 = .ok (.isub, 1) := by decide +kernel
theorem dL_law_362 : decode cL_law 362 = .ok (.invokestatic 125, 3) := by decide +kernel
theorem dL_law_365 : decode cL_law 365 = .ok (.if_icmp .ne 27, 3) := by decide +kernel
theorem dL_law_368 : decode cL_law 368 = .ok (.aload_n 1, 1) := by decide +kernel
theorem dL_law_369 : decode cL_law 369 = .ok (.iload 16, 2) := by decide +kernel
theorem dL_law_371 : decode cL_law 371 = .ok (.iconst 2, 1) := by decide +kernel
theorem dL_law_372 : decode cL_law 372 = .ok (.invokevirtual 116, 3) := by decide +kernel
theorem dL_law_375 : decode cL_law 375 = .ok (.aload 8, 2) := by decide +kernel
theorem dL_law_377 : decode cL_law 377 = .ok (.iload 16, 2) := by decide +kernel
theorem dL_law_379 : decode cL_law 379 = .ok (.iaload, 1) := by decide +kernel
theorem dL_law_380 : decode cL_law 380 = .ok (.iconst 5, 1) := by decide +kernel
theorem dL_law_381 : decode cL_law 381 = .ok (.if_icmp .le 7, 3) := by decide +kernel
theorem dL_law_384 : decode cL_law 384 = .ok (.iconst 1, 1) := by decide +kernel
theorem dL_law_385 : decode cL_law 385 = .ok (.goto 4, 3) := by decide +kernel
theorem dL_law_388 : decode cL_law 388 = .ok (.iconst 0, 1) := by decide +kernel
theorem dL_law_389 : decode cL_law 389 = .ok (.if_icmp .eq 5, 3) := by decide +kernel
theorem dL_law_392 : decode cL_law 392 = .ok (.iconst 0, 1) := by decide +kernel
theorem dL_law_393 : decode cL_law 393 = .ok (.ireturn, 1) := by decide +kernel
theorem dL_law_394 : decode cL_law 394 = .ok (.iinc 16 1, 3) := by decide +kernel
theorem dL_law_397 : decode cL_law 397 = .ok (.goto (-57), 3) := by decide +kernel
theorem dL_law_400 : decode cL_law 400 = .ok (.goto 15, 3) := by decide +kernel
theorem dL_law_403 : decode cL_law 403 = .ok (.aload_n 1, 1) := by decide +kernel
theorem dL_law_404 : decode cL_law 404 = .ok (.aload_n 2, 1) := by decide +kernel
theorem dL_law_405 : decode cL_law 405 = .ok (.iload 4, 2) := by decide +kernel
theorem dL_law_407 : decode cL_law 407 = .ok (.invokestatic 100, 3) := by decide +kernel
theorem dL_law_410 : decode cL_law 410 = .ok (.ifCond .ne 5, 3) := by decide +kernel
theorem dL_law_413 : decode cL_law 413 = .ok (.iconst 0, 1) := by decide +kernel
theorem dL_law_414 : decode cL_law 414 = .ok (.ireturn, 1) := by decide +kernel
theorem dL_law_415 : decode cL_law 415 = .ok (.iconst 0, 1) := by decide +kernel
theorem dL_law_416 : decode cL_law 416 = .ok (.istore 16, 2) := by decide +kernel
theorem dL_law_418 : decode cL_law 418 = .ok (.iload 16, 2) := by decide +kernel
theorem dL_law_420 : decode cL_law 420 = .ok (.bipush 30, 2) := by decide +kernel
theorem dL_law_422 : decode cL_law 422 = .ok (.if_icmp .ge 40, 3) := by decide +kernel
theorem dL_law_425 : decode cL_law 425 = .ok (.iload 6, 2) := by decide +kernel
theorem dL_law_427 : decode cL_law 427 = .ok (.ifCond .lt 35, 3) := by decide +kernel
theorem dL_law_430 : decode cL_law 430 = .ok (.aload_n 1, 1) := by decide +kernel
theorem dL_law_431 : decode cL_law 431 = .ok (.iload 6, 2) := by decide +kernel
theorem dL_law_433 : decode cL_law 433 = .ok (.iload 16, 2) := by decide +kernel
theorem dL_law_435 : decode cL_law 435 = .ok (.bipush 6, 2) := by decide +kernel
theorem dL_law_437 : decode cL_law 437 = .ok (.idiv, 1) := by decide +kernel
theorem dL_law_438 : decode cL_law 438 = .ok (.iload 16, 2) := by decide +kernel
theorem dL_law_440 : decode cL_law 440 = .ok (.bipush 6, 2) := by decide +kernel
theorem dL_law_442 : decode cL_law 442 = .ok (.irem, 1) := by decide +kernel
theorem dL_law_443 : decode cL_law 443 = .ok (.invokevirtual 113, 3) := by decide +kernel
theorem dL_law_446 : decode cL_law 446 = .ok (.aload 7, 2) := by decide +kernel
theorem dL_law_448 : decode cL_law 448 = .ok (.iload 16, 2) := by decide +kernel
theorem dL_law_450 : decode cL_law 450 = .ok (.iaload, 1) := by decide +kernel
theorem dL_law_451 : decode cL_law 451 = .ok (.if_icmp .eq 5, 3) := by decide +kernel
theorem dL_law_454 : decode cL_law 454 = .ok (.iconst 0, 1) := by decide +kernel
theorem dL_law_455 : decode cL_law 455 = .ok (.ireturn, 1) := by decide +kernel
theorem dL_law_456 : decode cL_law 456 = .ok (.iinc 16 1, 3) := by decide +kernel
theorem dL_law_459 : decode cL_law 459 = .ok (.goto (-41), 3) := by decide +kernel
theorem dL_law_462 : decode cL_law 462 = .ok (.aload_n 1, 1) := by decide +kernel
theorem dL_law_463 : decode cL_law 463 = .ok (.iconst 0, 1) := by decide +kernel
theorem dL_law_464 : decode cL_law 464 = .ok (.invokevirtual 109, 3) := by decide +kernel
theorem dL_law_467 : decode cL_law 467 = .ok (.istore 5, 2) := by decide +kernel
theorem dL_law_469 : decode cL_law 469 = .ok (.iconst 0, 1) := by decide +kernel
theorem dL_law_470 : decode cL_law 470 = .ok (.istore 16, 2) := by decide +kernel
theorem dL_law_472 : decode cL_law 472 = .ok (.iconst 0, 1) := by decide +kernel
theorem dL_law_473 : decode cL_law 473 = .ok (.istore 17, 2) := by decide +kernel
theorem dL_law_475 : decode cL_law 475 = .ok (.iconst 0, 1) := by decide +kernel
theorem dL_law_476 : decode cL_law 476 = .ok (.istore 18, 2) := by decide +kernel
theorem dL_law_478 : decode cL_law 478 = .ok (.iconst 0, 1) := by decide +kernel
theorem dL_law_479 : decode cL_law 479 = .ok (.istore 19, 2) := by decide +kernel
theorem dL_law_481 : decode cL_law 481 = .ok (.iload 19, 2) := by decide +kernel
theorem dL_law_483 : decode cL_law 483 = .ok (.iload 5, 2) := by decide +kernel
theorem dL_law_485 : decode cL_law 485 = .ok (.if_icmp .ge 174, 3) := by decide +kernel
theorem dL_law_488 : decode cL_law 488 = .ok (.iload 16, 2) := by decide +kernel
theorem dL_law_490 : decode cL_law 490 = .ok (.aload_n 1, 1) := by decide +kernel
theorem dL_law_491 : decode cL_law 491 = .ok (.iload 19, 2) := by decide +kernel
theorem dL_law_493 : decode cL_law 493 = .ok (.iconst 2, 1) := by decide +kernel
theorem dL_law_494 : decode cL_law 494 = .ok (.invokevirtual 122, 3) := by decide +kernel
theorem dL_law_497 : decode cL_law 497 = .ok (.iadd, 1) := by decide +kernel
theorem dL_law_498 : decode cL_law 498 = .ok (.istore 16, 2) := by decide +kernel
theorem dL_law_500 : decode cL_law 500 = .ok (.iload 17, 2) := by decide +kernel
theorem dL_law_502 : decode cL_law 502 = .ok (.aload_n 1, 1) := by decide +kernel
theorem dL_law_503 : decode cL_law 503 = .ok (.iload 19, 2) := by decide +kernel
theorem dL_law_505 : decode cL_law 505 = .ok (.iconst 0, 1) := by decide +kernel
theorem dL_law_506 : decode cL_law 506 = .ok (.invokevirtual 122, 3) := by decide +kernel
theorem dL_law_509 : decode cL_law 509 = .ok (.iadd, 1) := by decide +kernel
theorem dL_law_510 : decode cL_law 510 = .ok (.istore 17, 2) := by decide +kernel
theorem dL_law_512 : decode cL_law 512 = .ok (.iload 18, 2) := by decide +kernel
theorem dL_law_514 : decode cL_law 514 = .ok (.aload_n 1, 1) := by decide +kernel
theorem dL_law_515 : decode cL_law 515 = .ok (.iload 19, 2) := by decide +kernel
theorem dL_law_517 : decode cL_law 517 = .ok (.iconst 1, 1) := by decide +kernel
