theorem ggL_build_L_act_wsX10 : GoodIn wsL_build wsX10 := goodIn_r _ [196, 197] (by decide +kernel) (by decide +kernel)
theorem ggL_build_L_act_wsX20 : GoodIn wsL_build wsX20 := goodIn_r _ [198, 199] (by decide +kernel) (by decide +kernel)
theorem ggL_build_L_act : GoodIn wsL_build wsL_act := (goodIn_app ggL_build_L_act_h (goodIn_app (goodIn_app (goodIn_app (goodIn_app (goodIn_app (goodIn_app (goodIn_app (goodIn_app (goodIn_app ggL_build_L_act_wsL_act_r1 (goodIn_app ggL_build_L_act_wsL_act_r2 (goodIn_app ggL_build_L_act_wsL_act_r3 (goodIn_app ggL_build_L_act_wsL_act_r4 (goodIn_app ggL_build_L_act_wsL_act_r5 (goodIn_app ggL_build_L_act_wsL_act_r6 ggL_build_L_act_wsL_act_r7)))))) ggL_build_L_act_wsX50) ggL_build_L_act_wsX40) ggL_build_L_act_wsX00) ggL_build_L_act_wsX10) ggL_build_L_act_wsX20) (goodIn_sub (fun _ h => List.mem_cons_of_mem _ (List.mem_append_left _ (List.mem_append_left _ (List.mem_append_right _ h)))) (by decide +kernel))) (goodIn_sub (fun _ h => List.mem_cons_of_mem _ (List.mem_append_left _ (List.mem_append_right _ h))) (by decide +kernel))) (goodIn_sub (fun _ h => List.mem_cons_of_mem _ (List.mem_append_right _ h)) (by decide +kernel))))
set_option maxRecDepth 20000 in
theorem gL_build_L_act : GoodIn wsL_build (va_wsS RL 100 yL_act wsL_act) := goodIn_app (goodIn_of _ (by decide +kernel)) ggL_build_L_act
theorem dL_build_0 : decode cL_build 0 = .ok (.new 10, 3) := by decide +kernel
theorem dL_build_3 : decode cL_build 3 = .ok (.dup, 1) := by decide +kernel
theorem dL_build_4 : decode cL_build 4 = .ok (.invokespecial 95, 3) := by decide +kernel
theorem dL_build_7 : decode cL_build 7 = .ok (.astore_n 2, 1) := by decide +kernel
theorem dL_build_8 : decode cL_build 8 = .ok (.iconst 0, 1) := by decide +kernel
theorem dL_build_9 : decode cL_build 9 = .ok (.istore_n 3, 1) := by decide +kernel
theorem dL_build_10 : decode cL_build 10 = .ok (.iload_n 3, 1) := by decide +kernel
theorem dL_build_11 : decode cL_build 11 = .ok (.bipush 24, 2) := by decide +kernel
theorem dL_build_13 : decode cL_build 13 = .ok (.if_icmp .ge 52, 3) := by decide +kernel
theorem dL_build_16 : decode cL_build 16 = .ok (.aload_n 0, 1) := by decide +kernel
theorem dL_build_17 : decode cL_build 17 = .ok (.aload_n 2, 1) := by decide +kernel
theorem dL_build_18 : decode cL_build 18 = .ok (.aload_n 1, 1) := by decide +kernel
theorem dL_build_19 : decode cL_build 19 = .ok (.iload_n 3, 1) := by decide +kernel
theorem dL_build_20 : decode cL_build 20 = .ok (.bipush 12, 2) := by decide +kernel
theorem dL_build_22 : decode cL_build 22 = .ok (.irem, 1) := by decide +kernel
theorem dL_build_23 : decode cL_build 23 = .ok (.invokestatic 96, 3) := by decide +kernel
theorem dL_build_26 : decode cL_build 26 = .ok (.iload_n 3, 1) := by decide +kernel
theorem dL_build_27 : decode cL_build 27 = .ok (.bipush 12, 2) := by decide +kernel
theorem dL_build_29 : decode cL_build 29 = .ok (.idiv, 1) := by decide +kernel
theorem dL_build_30 : decode cL_build 30 = .ok (.iconst 4, 1) := by decide +kernel
theorem dL_build_31 : decode cL_build 31 = .ok (.imul, 1) := by decide +kernel
theorem dL_build_32 : decode cL_build 32 = .ok (.ishr, 1) := by decide +kernel
theorem dL_build_33 : decode cL_build 33 = .ok (.sipush 167, 3) := by decide +kernel
theorem dL_build_36 : decode cL_build 36 = .ok (.iload_n 3, 1) := by decide +kernel
theorem dL_build_37 : decode cL_build 37 = .ok (.imul, 1) := by decide +kernel
theorem dL_build_38 : decode cL_build 38 = .ok (.iadd, 1) := by decide +kernel
theorem dL_build_39 : decode cL_build 39 = .ok (.iload_n 3, 1) := by decide +kernel
theorem dL_build_40 : decode cL_build 40 = .ok (.ifCond .ne 9, 3) := by decide +kernel
theorem dL_build_43 : decode cL_build 43 = .ok (.sipush 1536, 3) := by decide +kernel
theorem dL_build_46 : decode cL_build 46 = .ok (.goto 4, 3) := by decide +kernel
theorem dL_build_49 : decode cL_build 49 = .ok (.iconst 0, 1) := by decide +kernel
theorem dL_build_50 : decode cL_build 50 = .ok (.iadd, 1) := by decide +kernel
theorem dL_build_51 : decode cL_build 51 = .ok (.invokestatic 100, 3) := by decide +kernel
theorem dL_build_54 : decode cL_build 54 = .ok (.ifCond .ne 5, 3) := by decide +kernel
theorem dL_build_57 : decode cL_build 57 = .ok (.aconst_null, 1) := by decide +kernel
theorem dL_build_58 : decode cL_build 58 = .ok (.areturn, 1) := by decide +kernel
theorem dL_build_59 : decode cL_build 59 = .ok (.iinc 3 1, 3) := by decide +kernel
theorem dL_build_62 : decode cL_build 62 = .ok (.goto (-52), 3) := by decide +kernel
theorem dL_build_65 : decode cL_build 65 = .ok (.aload_n 2, 1) := by decide +kernel
theorem dL_build_66 : decode cL_build 66 = .ok (.areturn, 1) := by decide +kernel
set_option maxRecDepth 20000 in
theorem ggL_law_X4_init : GoodIn wsL_law wsX4_init := goodIn_r _ [10, 11, 12, 13, 14, 15, 16, 17, 18, 19, 20, 21, 22, 23, 24, 25, 26, 27, 28, 29, 30, 31, 32, 33, 34, 35, 36, 37, 38, 39, 40, 41, 42, 43, 44, 45, 46, 47, 48, 49, 50, 51, 52, 53, 54, 3, 55, 56, 57, 363, 364, 365, 366, 367, 368, 369, 358, 359, 360, 361, 362, 370, 371, 372, 373, 374, 375, 376, 377] (by decide +kernel) (by decide +kernel)
set_option maxRecDepth 20000 in
theorem gL_law_X4_init : GoodIn wsL_law (wsX4_init) := ggL_law_X4_init
set_option maxRecDepth 20000 in
theorem ggL_law_L_build_h : GoodIn wsL_law [.code yL_build cL_build 4 (some (.object "StampSheetsLaw$Sim"))] := goodIn_r _ [61] (by decide +kernel) (by decide +kernel)
theorem ggL_law_L_build_wsL_build_r1 : GoodIn wsL_law wsL_build_r1 := goodIn_r _ [62, 63, 64, 65, 66, 67, 12, 13, 68, 69, 3, 70, 71, 22, 72, 73, 74, 75, 76, 77, 78, 79, 60, 80] (by decide +kernel) (by decide +kernel)
theorem ggL_law_L_build_wsL_build_r2 : GoodIn wsL_law wsL_build_r2 := goodIn_r _ [81, 82, 83, 84, 85, 86, 87, 88, 89, 90, 91, 92, 93, 94, 95, 96, 97, 98, 99, 100, 101, 102, 103, 104] (by decide +kernel) (by decide +kernel)
theorem ggL_law_L_build_wsL_build_r3 : GoodIn wsL_law wsL_build_r3 := goodIn_r _ [105, 106, 107, 108, 109, 2, 110, 111, 112, 17, 113, 114, 115, 116, 117, 118, 119, 120, 121, 122, 123, 124, 125, 126] (by decide +kernel) (by decide +kernel)
theorem ggL_law_L_build_wsL_build_r4 : GoodIn wsL_law wsL_build_r4 := goodIn_r _ [127, 128, 129, 130, 131, 132, 133, 134, 135, 136, 23, 137, 138, 139, 140, 141, 142, 143, 144, 145, 146, 25, 147, 148] (by decide +kernel) (by decide +kernel)
theorem ggL_law_L_build_wsL_build_r5 : GoodIn wsL_law wsL_build_r5 := goodIn_r _ [149, 16, 150, 151, 32, 152, 153, 154, 155, 156, 6, 157, 158, 5, 7, 159, 160, 161, 162, 163, 164, 165, 166, 35] (by decide +kernel) (by decide +kernel)
theorem ggL_law_L_build_wsL_build_r6 : GoodIn wsL_law wsL_build_r6 := goodIn_r _ [167, 168, 169, 37, 170, 171, 41, 172, 173, 174, 175, 33, 176, 177, 178, 179, 180, 181, 182, 183, 184, 185, 186, 187] (by decide +kernel) (by decide +kernel)
theorem ggL_law_L_build_wsL_build_r7 : GoodIn wsL_law wsL_build_r7 := goodIn_r _ [188, 189, 190, 191, 192, 193, 194, 195, 196, 197, 198, 199, 200, 201, 202, 203, 204, 205, 206, 207, 208, 209, 210, 27] (by decide +kernel) (by decide +kernel)
theorem ggL_law_L_build_wsL_build_r8 : GoodIn wsL_law wsL_build_r8 := goodIn_r _ [211, 55, 56] (by decide +kernel) (by decide +kernel)
theorem ggL_law_L_build_wsX50 : GoodIn wsL_law wsX50 := goodIn_r _ [378, 379, 380, 381, 382, 383, 384, 385, 386, 387, 388, 389] (by decide +kernel) (by decide +kernel)
theorem ggL_law_L_build_wsX40 : GoodIn wsL_law wsX40 := goodIn_r _ [358, 359, 360, 361, 362] (by decide +kernel) (by decide +kernel)
theorem ggL_law_L_build_wsX00 : GoodIn wsL_law wsX00 := goodIn_r _ [363, 364, 365, 366, 367, 368, 369] (by decide +kernel) (by decide +kernel)
theorem ggL_law_L_build_wsX10 : GoodIn wsL_law wsX10 := goodIn_r _ [376, 377] (by decide +kernel) (by decide +kernel)
theorem ggL_law_L_build_wsX20 : GoodIn wsL_law wsX20 := goodIn_r _ [374, 375] (by decide +kernel) (by decide +kernel)
theorem ggL_law_L_build : GoodIn wsL_law wsL_build := (goodIn_app ggL_law_L_build_h (goodIn_app (goodIn_app (goodIn_app (goodIn_app (goodIn_app (goodIn_app (goodIn_app (goodIn_app (goodIn_app ggL_law_L_build_wsL_build_r1 (goodIn_app ggL_law_L_build_wsL_build_r2 (goodIn_app ggL_law_L_build_wsL_build_r3 (goodIn_app ggL_law_L_build_wsL_build_r4 (goodIn_app ggL_law_L_build_wsL_build_r5 (goodIn_app ggL_law_L_build_wsL_build_r6 (goodIn_app ggL_law_L_build_wsL_build_r7 ggL_law_L_build_wsL_build_r8))))))) ggL_law_L_build_wsX50) ggL_law_L_build_wsX40) ggL_law_L_build_wsX00) ggL_law_L_build_wsX10) ggL_law_L_build_wsX20) (goodIn_sub (fun _ h => List.mem_append_left _ (List.mem_append_left _ (List.mem_append_right _ h))) (by decide +kernel))) (goodIn_sub (fun _ h => List.mem_append_left _ (List.mem_append_right _ h)) (by decide +kernel))) (goodIn_sub (fun _ h => List.mem_append_right _ h) (by decide +kernel))))
set_option maxRecDepth 20000 in
theorem gL_law_L_build : GoodIn wsL_law (va_wsS RL 105 yL_build wsL_build) := goodIn_app (goodIn_of _ (by decide +kernel)) ggL_law_L_build
set_option maxRecDepth 20000 in
theorem ggL_law_L_cell : GoodIn wsL_law wsL_cell := goodIn_r _ [80, 81] (by decide +kernel) (by decide +kernel)
set_option maxRecDepth 20000 in
theorem gL_law_L_cell : GoodIn wsL_law (va_wsS RL 96 yL_cell wsL_cell) := goodIn_app (goodIn_of _ (by decide +kernel)) ggL_law_L_cell
set_option maxRecDepth 20000 in
theorem ggL_law_X4_count : GoodIn wsL_law wsX4_count := goodIn_ca (goodIn_r _ [215, 216, 217, 2, 218, 131, 132, 113, 114, 115, 219, 220, 221, 222, 146, 17, 223, 224, 225, 16, 226, 35, 167, 168, 169, 37, 170, 171, 41, 227, 228, 229, 230, 23, 231, 232, 233, 234, 25, 235, 236, 237, 27, 238, 239, 209, 210, 211, 55, 56, 358, 359, 360, 361, 362, 363, 364, 365, 366, 367, 368, 369, 376, 377, 374, 375] (by decide +kernel) (by decide +kernel)) (goodIn_sub (fun _ h => List.mem_append_left _ (List.mem_append_right _ h)) (by decide +kernel))
set_option maxRecDepth 20000 in
theorem gL_law_X4_count : GoodIn wsL_law (wsV RL 109 RX4 yX4_count wsX4_count) := goodIn_app (goodIn_of _ (by decide +kernel)) ggL_law_X4_count
set_option maxRecDepth 20000 in
theorem ggL_law_L_below : GoodIn wsL_law wsL_below := goodIn_r _ [105, 106] (by decide +kernel) (by decide +kernel)
set_option maxRecDepth 20000 in
theorem gL_law_L_below : GoodIn wsL_law (va_wsS RL 15 yL_below wsL_below) := goodIn_app (goodIn_of _ (by decide +kernel)) ggL_law_L_below
set_option maxRecDepth 20000 in
theorem ggL_law_X4_faults : GoodIn wsL_law wsX4_faults := goodIn_ca (goodIn_r _ [243, 25, 204, 205, 206, 2, 207, 131, 132, 146, 113, 114, 115, 137, 138, 139, 358, 359, 360, 361, 362, 374, 375] (by decide +kernel) (by decide +kernel)) (goodIn_sub (fun _ h => List.mem_append_left _ (List.mem_append_right _ h)) (by decide +kernel))
set_option maxRecDepth 20000 in
theorem gL_law_X4_faults : GoodIn wsL_law (wsV RL 113 RX4 yX4_faults wsX4_faults) := goodIn_app (goodIn_of _ (by decide +kernel)) ggL_law_X4_faults
set_option maxRecDepth 20000 in
theorem ggL_law_X4_pin : GoodIn wsL_law wsX4_pin := goodIn_ca (goodIn_r _ [247, 17, 128, 129, 2, 130, 131, 132, 113, 114, 115, 216, 217, 218, 248, 249, 250, 37, 251, 41, 171, 184, 168, 169, 170, 358, 359, 360, 361, 362, 363, 364, 365, 366, 367, 368, 369, 376, 377] (by decide +kernel) (by decide +kernel)) (goodIn_sub (fun _ h => List.mem_append_left _ (List.mem_append_right _ h)) (by decide +kernel))
set_option maxRecDepth 20000 in
theorem gL_law_X4_pin : GoodIn wsL_law (wsV RL 116 RX4 yX4_pin wsX4_pin) := goodIn_app (goodIn_of _ (by decide +kernel)) ggL_law_X4_pin
set_option maxRecDepth 20000 in
theorem ggL_law_X4_foresee_h : GoodIn wsL_law [.code yX4_foresee cX4_foresee 3 (some .int)] := goodIn_r _ [255] (by decide +kernel) (by decide +kernel)
theorem ggL_law_X4_foresee_wsX4_foresee_r1 : GoodIn wsL_law wsX4_foresee_r1 := goodIn_r _ [21, 17, 23, 256, 257, 2, 258, 111, 112, 113, 114, 115, 216, 217, 218, 131, 132, 259, 260, 261, 20, 262, 47, 263] (by decide +kernel) (by decide +kernel)
theorem ggL_law_X4_foresee_wsX4_foresee_r2 : GoodIn wsL_law wsX4_foresee_r2 := goodIn_r _ [264, 49, 265, 266, 267, 16, 268, 35, 32, 154, 151, 152, 153, 33, 269, 270, 271, 37, 272, 41, 171, 273, 148, 149] (by decide +kernel) (by decide +kernel)
theorem ggL_law_X4_foresee_wsX4_foresee_r3 : GoodIn wsL_law wsX4_foresee_r3 := goodIn_r _ [150, 155, 156, 6, 157, 158, 5, 7, 159, 160, 161, 162, 163, 164, 165, 166, 167, 168, 169, 170, 172, 173, 174, 175] (by decide +kernel) (by decide +kernel)
theorem ggL_law_X4_foresee_wsX4_foresee_r4 : GoodIn wsL_law wsX4_foresee_r4 := goodIn_r _ [176, 177, 178, 179, 180, 181, 182, 183, 184, 274, 275, 276, 27, 277, 278, 279, 280, 281, 56, 55, 282, 236, 237, 238] (by decide +kernel) (by decide +kernel)
theorem ggL_law_X4_foresee_wsX4_foresee_r5 : GoodIn wsL_law wsX4_foresee_r5 := goodIn_r _ [239, 209, 210, 211, 283, 284, 285, 286, 287, 224, 225, 226] (by decide +kernel) (by decide +kernel)
theorem ggL_law_X4_foresee_wsX40 : GoodIn wsL_law wsX40 := goodIn_r _ [358, 359, 360, 361, 362] (by decide +kernel) (by decide +kernel)
theorem ggL_law_X4_foresee_wsX00 : GoodIn wsL_law wsX00 := goodIn_r _ [363, 364, 365, 366, 367, 368, 369] (by decide +kernel) (by decide +kernel)
theorem ggL_law_X4_foresee_wsX30 : GoodIn wsL_law wsX30 := goodIn_r _ [370, 371, 372, 373] (by decide +kernel) (by decide +kernel)
theorem ggL_law_X4_foresee_wsX10 : GoodIn wsL_law wsX10 := goodIn_r _ [376, 377] (by decide +kernel) (by decide +kernel)
theorem ggL_law_X4_foresee_wsX20 : GoodIn wsL_law wsX20 := goodIn_r _ [374, 375] (by decide +kernel) (by decide +kernel)
theorem ggL_law_X4_foresee : GoodIn wsL_law wsX4_foresee := (goodIn_app ggL_law_X4_foresee_h (goodIn_app (goodIn_app (goodIn_app (goodIn_app (goodIn_app (goodIn_app (goodIn_app (goodIn_app ggL_law_X4_foresee_wsX4_foresee_r1 (goodIn_app ggL_law_X4_foresee_wsX4_foresee_r2 (goodIn_app ggL_law_X4_foresee_wsX4_foresee_r3 (goodIn_app ggL_law_X4_foresee_wsX4_foresee_r4 ggL_law_X4_foresee_wsX4_foresee_r5)))) ggL_law_X4_foresee_wsX40) ggL_law_X4_foresee_wsX00) ggL_law_X4_foresee_wsX30) ggL_law_X4_foresee_wsX10) ggL_law_X4_foresee_wsX20) (goodIn_sub (fun _ h => List.mem_append_left _ (List.mem_append_left _ (List.mem_append_right _ h))) (by decide +kernel))) (goodIn_sub (fun _ h => List.mem_append_left _ (List.mem_append_right _ h)) (by decide +kernel))))
set_option maxRecDepth 20000 in
theorem gL_law_X4_foresee : GoodIn wsL_law (wsV RL 119 RX4 yX4_foresee wsX4_foresee) := goodIn_app (goodIn_of _ (by decide +kernel)) ggL_law_X4_foresee
set_option maxRecDepth 20000 in
theorem ggL_law_X4_run : GoodIn wsL_law wsX4_run := goodIn_ca (goodIn_r _ [143, 144, 145, 146, 17, 23, 25, 147, 148, 149, 16, 150, 151, 32, 152, 153, 154, 155, 156, 6, 157, 158, 5, 7, 159, 160, 161, 162, 114, 2, 115, 163, 164, 165, 166, 35, 167, 168, 169, 37, 170, 171, 41, 172, 173, 174, 175, 33, 176, 177, 178, 179, 180, 181, 182, 183, 184, 358, 359, 360, 361, 362, 363, 364, 365, 366, 367, 368, 369, 374, 375, 376, 377] (by decide +kernel) (by decide +kernel)) (goodIn_sub (fun _ h => List.mem_append_right _ h) (by decide +kernel))
set_option maxRecDepth 20000 in
theorem gL_law_X4_run : GoodIn wsL_law (wsV RL 79 RX4 yX4_run wsX4_run) := goodIn_app (goodIn_of _ (by decide +kernel)) ggL_law_X4_run
set_option maxRecDepth 20000 in
theorem ggL_law_X4_sheet : GoodIn wsL_law wsX4_sheet := goodIn_ca (goodIn_r _ [291, 25, 204, 205, 206, 2, 207, 131, 132, 146, 113, 114, 115, 216, 217, 218, 292, 293, 294, 27, 295, 296, 297, 298, 299, 56, 300, 275, 276, 277, 278, 279, 280, 281, 55, 301, 236, 237, 238, 239, 209, 210, 211, 302, 303, 304, 305, 306, 307, 308, 309, 310, 311, 312, 313, 314, 315, 316, 317, 318, 5, 6, 7, 319, 320, 321, 322, 323, 324, 325, 358, 359, 360, 361, 362, 374, 375] (by decide +kernel) (by decide +kernel)) (goodIn_sub (fun _ h => List.mem_append_left _ (List.mem_append_right _ h)) (by decide +kernel))
set_option maxRecDepth 20000 in
theorem gL_law_X4_sheet : GoodIn wsL_law (wsV RL 122 RX4 yX4_sheet wsX4_sheet) := goodIn_app (goodIn_of _ (by decide +kernel)) ggL_law_X4_sheet
set_option maxRecDepth 20000 in
theorem ggL_law_X5_run : GoodIn wsL_law wsX5_run := goodIn_r _ [188, 76, 75, 77, 73, 22, 189, 190, 191, 64, 192, 3, 193, 68, 72, 74, 194, 69, 71, 70, 195, 196, 378, 379, 380, 381, 382, 383, 384, 385, 386, 387, 388, 389] (by decide +kernel) (by decide +kernel)
