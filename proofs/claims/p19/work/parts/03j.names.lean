theorem dX5_told_306 : decode cX5_told 306 = .ok (.aload_n 0, 1) := by decide +kernel
theorem dX5_told_307 : decode cX5_told 307 = .ok (.getfield 34, 3) := by decide +kernel
theorem dX5_told_310 : decode cX5_told 310 = .ok (.iload_n 1, 1) := by decide +kernel
theorem dX5_told_311 : decode cX5_told 311 = .ok (.aaload, 1) := by decide +kernel
theorem dX5_told_312 : decode cX5_told 312 = .ok (.iload 7, 2) := by decide +kernel
theorem dX5_told_314 : decode cX5_told 314 = .ok (.aaload, 1) := by decide +kernel
theorem dX5_told_315 : decode cX5_told 315 = .ok (.iload 9, 2) := by decide +kernel
theorem dX5_told_317 : decode cX5_told 317 = .ok (.iaload, 1) := by decide +kernel
theorem dX5_told_318 : decode cX5_told 318 = .ok (.ifCond .ne 7, 3) := by decide +kernel
theorem dX5_told_321 : decode cX5_told 321 = .ok (.iconst 1, 1) := by decide +kernel
theorem dX5_told_322 : decode cX5_told 322 = .ok (.goto 4, 3) := by decide +kernel
theorem dX5_told_325 : decode cX5_told 325 = .ok (.iconst 0, 1) := by decide +kernel
theorem dX5_told_326 : decode cX5_told 326 = .ok (.bastore, 1) := by decide +kernel
theorem dX5_told_327 : decode cX5_told 327 = .ok (.aload 6, 2) := by decide +kernel
theorem dX5_told_329 : decode cX5_told 329 = .ok (.iload 9, 2) := by decide +kernel
theorem dX5_told_331 : decode cX5_told 331 = .ok (.baload, 1) := by decide +kernel
theorem dX5_told_332 : decode cX5_told 332 = .ok (.ifCond .eq 10, 3) := by decide +kernel
theorem dX5_told_335 : decode cX5_told 335 = .ok (.iload 8, 2) := by decide +kernel
theorem dX5_told_337 : decode cX5_told 337 = .ok (.iconst 1, 1) := by decide +kernel
theorem dX5_told_338 : decode cX5_told 338 = .ok (.iadd, 1) := by decide +kernel
theorem dX5_told_339 : decode cX5_told 339 = .ok (.goto 4, 3) := by decide +kernel
theorem dX5_told_342 : decode cX5_told 342 = .ok (.iconst 0, 1) := by decide +kernel
theorem dX5_told_343 : decode cX5_told 343 = .ok (.istore 8, 2) := by decide +kernel
theorem dX5_told_345 : decode cX5_told 345 = .ok (.iload 4, 2) := by decide +kernel
theorem dX5_told_347 : decode cX5_told 347 = .ok (.iload 8, 2) := by decide +kernel
theorem dX5_told_349 : decode cX5_told 349 = .ok (.iload 7, 2) := by decide +kernel
theorem dX5_told_351 : decode cX5_told 351 = .ok (.iload 5, 2) := by decide +kernel
theorem dX5_told_353 : decode cX5_told 353 = .ok (.isub, 1) := by decide +kernel
theorem dX5_told_354 : decode cX5_told 354 = .ok (.iconst 1, 1) := by decide +kernel
theorem dX5_told_355 : decode cX5_told 355 = .ok (.iadd, 1) := by decide +kernel
theorem dX5_told_356 : decode cX5_told 356 = .ok (.imul, 1) := by decide +kernel
theorem dX5_told_357 : decode cX5_told 357 = .ok (.invokestatic 63, 3) := by decide +kernel
theorem dX5_told_360 : decode cX5_told 360 = .ok (.istore 4, 2) := by decide +kernel
theorem dX5_told_362 : decode cX5_told 362 = .ok (.iinc 9 1, 3) := by decide +kernel
theorem dX5_told_365 : decode cX5_told 365 = .ok (.goto (-93), 3) := by decide +kernel
theorem dX5_told_368 : decode cX5_told 368 = .ok (.iinc 7 1, 3) := by decide +kernel
theorem dX5_told_371 : decode cX5_told 371 = .ok (.goto (-111), 3) := by decide +kernel
theorem dX5_told_374 : decode cX5_told 374 = .ok (.iinc 5 1, 3) := by decide +kernel
theorem dX5_told_377 : decode cX5_told 377 = .ok (.goto (-157), 3) := by decide +kernel
theorem dX5_told_380 : decode cX5_told 380 = .ok (.iload 4, 2) := by decide +kernel
theorem dX5_told_382 : decode cX5_told 382 = .ok (.ireturn, 1) := by decide +kernel
theorem dX5_broken_0 : decode cX5_broken 0 = .ok (.iconst 0, 1) := by decide +kernel
theorem dX5_broken_1 : decode cX5_broken 1 = .ok (.istore_n 1, 1) := by decide +kernel
theorem dX5_broken_2 : decode cX5_broken 2 = .ok (.aload_n 0, 1) := by decide +kernel
theorem dX5_broken_3 : decode cX5_broken 3 = .ok (.getfield 23, 3) := by decide +kernel
theorem dX5_broken_6 : decode cX5_broken 6 = .ok (.astore_n 2, 1) := by decide +kernel
theorem dX5_broken_7 : decode cX5_broken 7 = .ok (.aload_n 2, 1) := by decide +kernel
theorem dX5_broken_8 : decode cX5_broken 8 = .ok (.arraylength, 1) := by decide +kernel
theorem dX5_broken_9 : decode cX5_broken 9 = .ok (.istore_n 3, 1) := by decide +kernel
theorem dX5_broken_10 : decode cX5_broken 10 = .ok (.iconst 0, 1) := by decide +kernel
theorem dX5_broken_11 : decode cX5_broken 11 = .ok (.istore 4, 2) := by decide +kernel
theorem dX5_broken_13 : decode cX5_broken 13 = .ok (.iload 4, 2) := by decide +kernel
theorem dX5_broken_15 : decode cX5_broken 15 = .ok (.iload_n 3, 1) := by decide +kernel
theorem dX5_broken_16 : decode cX5_broken 16 = .ok (.if_icmp .ge 28, 3) := by decide +kernel
theorem dX5_broken_19 : decode cX5_broken 19 = .ok (.aload_n 2, 1) := by decide +kernel
theorem dX5_broken_20 : decode cX5_broken 20 = .ok (.iload 4, 2) := by decide +kernel
theorem dX5_broken_22 : decode cX5_broken 22 = .ok (.baload, 1) := by decide +kernel
theorem dX5_broken_23 : decode cX5_broken 23 = .ok (.istore 5, 2) := by decide +kernel
theorem dX5_broken_25 : decode cX5_broken 25 = .ok (.iload_n 1, 1) := by decide +kernel
theorem dX5_broken_26 : decode cX5_broken 26 = .ok (.iload 5, 2) := by decide +kernel
theorem dX5_broken_28 : decode cX5_broken 28 = .ok (.ifCond .eq 7, 3) := by decide +kernel
theorem dX5_broken_31 : decode cX5_broken 31 = .ok (.iconst 1, 1) := by decide +kernel
theorem dX5_broken_32 : decode cX5_broken 32 = .ok (.goto 4, 3) := by decide +kernel
theorem dX5_broken_35 : decode cX5_broken 35 = .ok (.iconst 0, 1) := by decide +kernel
theorem dX5_broken_36 : decode cX5_broken 36 = .ok (.iadd, 1) := by decide +kernel
theorem dX5_broken_37 : decode cX5_broken 37 = .ok (.istore_n 1, 1) := by decide +kernel
theorem dX5_broken_38 : decode cX5_broken 38 = .ok (.iinc 4 1, 3) := by decide +kernel
theorem dX5_broken_41 : decode cX5_broken 41 = .ok (.goto (-28), 3) := by decide +kernel
theorem dX5_broken_44 : decode cX5_broken 44 = .ok (.iload_n 1, 1) := by decide +kernel
theorem dX5_broken_45 : decode cX5_broken 45 = .ok (.ireturn, 1) := by decide +kernel
set_option maxRecDepth 20000 in
theorem ggX5_isSame_X4_sheet : GoodIn wsX5_isSame wsX4_sheet := goodIn_ca (goodIn_r _ [17, 18, 19, 20, 21, 16, 22, 23, 24, 25, 26, 27, 28, 29, 30, 31, 32, 33, 34, 35, 36, 37, 38, 39, 40, 41, 42, 43, 44, 45, 46, 47, 48, 49, 50, 51, 52, 53, 54, 55, 56, 57, 58, 59, 60, 61, 62, 63, 64, 65, 66, 67, 68, 69, 70, 71, 72, 73, 74, 75, 76, 77, 78, 79, 80, 81, 82, 83, 84, 85, 173, 174, 175, 176, 177, 178, 179] (by decide +kernel) (by decide +kernel)) (goodIn_sub (fun _ h => List.mem_cons_of_mem _ (List.mem_append_right _ h)) (by decide +kernel))
set_option maxRecDepth 20000 in
theorem gX5_isSame_X4_sheet : GoodIn wsX5_isSame (wsV RX5 69 RX4 yX4_sheet wsX4_sheet) := goodIn_app (goodIn_of _ (by decide +kernel)) ggX5_isSame_X4_sheet
set_option maxRecDepth 20000 in
theorem ggX5_isSame_X5_told : GoodIn wsX5_isSame wsX5_told := goodIn_r _ [90, 1, 91, 92, 93, 76, 77, 78, 94, 95, 89, 96, 161, 162, 163, 164, 165, 166, 167, 168, 169, 170, 171, 172] (by decide +kernel) (by decide +kernel)
set_option maxRecDepth 20000 in
theorem gX5_isSame_X5_told : GoodIn wsX5_isSame (wsV RX5 73 RX5 yX5_told wsX5_told) := goodIn_app (goodIn_of _ (by decide +kernel)) ggX5_isSame_X5_told
set_option maxRecDepth 20000 in
theorem ggX5_isSame_X4_faults : GoodIn wsX5_isSame wsX4_faults := goodIn_ca (goodIn_r _ [100, 18, 19, 20, 21, 16, 22, 23, 24, 25, 26, 27, 28, 101, 102, 103, 173, 174, 175, 176, 177, 178, 179] (by decide +kernel) (by decide +kernel)) (goodIn_sub (fun _ h => List.mem_cons_of_mem _ (List.mem_append_right _ h)) (by decide +kernel))
set_option maxRecDepth 20000 in
theorem gX5_isSame_X4_faults : GoodIn wsX5_isSame (wsV RX5 76 RX4 yX4_faults wsX4_faults) := goodIn_app (goodIn_of _ (by decide +kernel)) ggX5_isSame_X4_faults
set_option maxRecDepth 20000 in
theorem ggX5_isSame_X4_pin : GoodIn wsX5_isSame wsX4_pin := goodIn_ca (goodIn_r _ [107, 108, 109, 110, 16, 111, 23, 24, 26, 27, 28, 29, 30, 31, 112, 113, 114, 115, 116, 117, 118, 119, 120, 121, 122, 173, 174, 175, 176, 177, 180, 181, 182, 183, 184, 185, 186, 187, 188] (by decide +kernel) (by decide +kernel)) (goodIn_sub (fun _ h => List.mem_cons_of_mem _ (List.mem_append_right _ h)) (by decide +kernel))
set_option maxRecDepth 20000 in
theorem gX5_isSame_X4_pin : GoodIn wsX5_isSame (wsV RX5 80 RX4 yX4_pin wsX4_pin) := goodIn_app (goodIn_of _ (by decide +kernel)) ggX5_isSame_X4_pin
set_option maxRecDepth 20000 in
theorem ggX5_isSame_X5_broken : GoodIn wsX5_isSame wsX5_broken := goodIn_r _ [126, 5, 161, 162, 163, 164, 165, 166, 167, 168, 169, 170, 171, 172] (by decide +kernel) (by decide +kernel)
set_option maxRecDepth 20000 in
theorem gX5_isSame_X5_broken : GoodIn wsX5_isSame (wsV RX5 83 RX5 yX5_broken wsX5_broken) := goodIn_app (goodIn_of _ (by decide +kernel)) ggX5_isSame_X5_broken
set_option maxRecDepth 20000 in
theorem ggX5_isSame_X4_count : GoodIn wsX5_isSame wsX4_count := goodIn_ca (goodIn_r _ [130, 29, 30, 16, 31, 23, 24, 26, 27, 28, 131, 132, 133, 134, 25, 108, 135, 136, 137, 138, 139, 140, 141, 120, 121, 115, 122, 118, 117, 142, 143, 144, 145, 146, 147, 148, 149, 150, 18, 151, 52, 53, 35, 54, 55, 56, 57, 58, 50, 41, 173, 174, 175, 176, 177, 180, 181, 182, 183, 184, 185, 186, 187, 188, 178, 179] (by decide +kernel) (by decide +kernel)) (goodIn_sub (fun _ h => List.mem_cons_of_mem _ (List.mem_append_right _ h)) (by decide +kernel))
set_option maxRecDepth 20000 in
theorem gX5_isSame_X4_count : GoodIn wsX5_isSame (wsV RX5 86 RX4 yX4_count wsX4_count) := goodIn_app (goodIn_of _ (by decide +kernel)) ggX5_isSame_X4_count
set_option maxRecDepth 20000 in
theorem ggX5_isSame_X4_share : GoodIn wsX5_isSame wsX4_share := goodIn_r _ [155, 25, 156, 157, 158, 16, 159, 18, 160, 43, 44, 35, 45, 46, 47, 48, 49, 41, 50, 173, 174, 175, 176, 177, 178, 179] (by decide +kernel) (by decide +kernel)
set_option maxRecDepth 20000 in
theorem gX5_isSame_X4_share : GoodIn wsX5_isSame (wsV RX5 90 RX4 yX4_share wsX4_share) := goodIn_app (goodIn_of _ (by decide +kernel)) ggX5_isSame_X4_share
theorem dX5_isSame_0 : decode cX5_isSame 0 = .ok (.iconst 0, 1) := by decide +kernel
theorem dX5_isSame_1 : decode cX5_isSame 1 = .ok (.istore_n 2, 1) := by decide +kernel
theorem dX5_isSame_2 : decode cX5_isSame 2 = .ok (.iconst 0, 1) := by decide +kernel
theorem dX5_isSame_3 : decode cX5_isSame 3 = .ok (.istore_n 3, 1) := by decide +kernel
theorem dX5_isSame_4 : decode cX5_isSame 4 = .ok (.iconst 0, 1) := by decide +kernel
theorem dX5_isSame_5 : decode cX5_isSame 5 = .ok (.istore 4, 2) := by decide +kernel
theorem dX5_isSame_7 : decode cX5_isSame 7 = .ok (.iload 4, 2) := by decide +kernel
theorem dX5_isSame_9 : decode cX5_isSame 9 = .ok (.aload_n 0, 1) := by decide +kernel
theorem dX5_isSame_10 : decode cX5_isSame 10 = .ok (.getfield 34, 3) := by decide +kernel
theorem dX5_isSame_13 : decode cX5_isSame 13 = .ok (.arraylength, 1) := by decide +kernel
theorem dX5_isSame_14 : decode cX5_isSame 14 = .ok (.if_icmp .ge 125, 3) := by decide +kernel
theorem dX5_isSame_17 : decode cX5_isSame 17 = .ok (.iconst 0, 1) := by decide +kernel
theorem dX5_isSame_18 : decode cX5_isSame 18 = .ok (.istore 5, 2) := by decide +kernel
theorem dX5_isSame_20 : decode cX5_isSame 20 = .ok (.iload 5, 2) := by decide +kernel
theorem dX5_isSame_22 : decode cX5_isSame 22 = .ok (.bipush 6, 2) := by decide +kernel
theorem dX5_isSame_24 : decode cX5_isSame 24 = .ok (.if_icmp .ge 30, 3) := by decide +kernel
theorem dX5_isSame_27 : decode cX5_isSame 27 = .ok (.aload_n 1, 1) := by decide +kernel
theorem dX5_isSame_28 : decode cX5_isSame 28 = .ok (.iload 4, 2) := by decide +kernel
theorem dX5_isSame_30 : decode cX5_isSame 30 = .ok (.iload 5, 2) := by decide +kernel
theorem dX5_isSame_32 : decode cX5_isSame 32 = .ok (.invokevirtual 69, 3) := by decide +kernel
theorem dX5_isSame_35 : decode cX5_isSame 35 = .ok (.aload_n 0, 1) := by decide +kernel
theorem dX5_isSame_36 : decode cX5_isSame 36 = .ok (.iload 4, 2) := by decide +kernel
theorem dX5_isSame_38 : decode cX5_isSame 38 = .ok (.iload 5, 2) := by decide +kernel
theorem dX5_isSame_40 : decode cX5_isSame 40 = .ok (.invokevirtual 73, 3) := by decide +kernel
theorem dX5_isSame_43 : decode cX5_isSame 43 = .ok (.if_icmp .eq 5, 3) := by decide +kernel
theorem dX5_isSame_46 : decode cX5_isSame 46 = .ok (.iconst 0, 1) := by decide +kernel
theorem dX5_isSame_47 : decode cX5_isSame 47 = .ok (.ireturn, 1) := by decide +kernel
theorem dX5_isSame_48 : decode cX5_isSame 48 = .ok (.iinc 5 1, 3) := by decide +kernel
theorem dX5_isSame_51 : decode cX5_isSame 51 = .ok (.goto (-31), 3) := by decide +kernel
theorem dX5_isSame_54 : decode cX5_isSame 54 = .ok (.iconst 0, 1) := by decide +kernel
theorem dX5_isSame_55 : decode cX5_isSame 55 = .ok (.istore 5, 2) := by decide +kernel
theorem dX5_isSame_57 : decode cX5_isSame 57 = .ok (.iload 5, 2) := by decide +kernel
theorem dX5_isSame_59 : decode cX5_isSame 59 = .ok (.iconst 5, 1) := by decide +kernel
theorem dX5_isSame_60 : decode cX5_isSame 60 = .ok (.if_icmp .ge 53, 3) := by decide +kernel
theorem dX5_isSame_63 : decode cX5_isSame 63 = .ok (.iconst 0, 1) := by decide +kernel
theorem dX5_isSame_64 : decode cX5_isSame 64 = .ok (.istore 6, 2) := by decide +kernel
theorem dX5_isSame_66 : decode cX5_isSame 66 = .ok (.iload 6, 2) := by decide +kernel
theorem dX5_isSame_68 : decode cX5_isSame 68 = .ok (.bipush 6, 2) := by decide +kernel
theorem dX5_isSame_70 : decode cX5_isSame 70 = .ok (.if_icmp .ge 37, 3) := by decide +kernel
theorem dX5_isSame_73 : decode cX5_isSame 73 = .ok (.aload_n 1, 1) := by decide +kernel
theorem dX5_isSame_74 : decode cX5_isSame 74 = .ok (.iload 4, 2) := by decide +kernel
theorem dX5_isSame_76 : decode cX5_isSame 76 = .ok (.iload 5, 2) := by decide +kernel
theorem dX5_isSame_78 : decode cX5_isSame 78 = .ok (.iload 6, 2) := by decide +kernel
theorem dX5_isSame_80 : decode cX5_isSame 80 = .ok (.invokevirtual 76, 3) := by decide +kernel
theorem dX5_isSame_83 : decode cX5_isSame 83 = .ok (.aload_n 0, 1) := by decide +kernel
theorem dX5_isSame_84 : decode cX5_isSame 84 = .ok (.getfield 34, 3) := by decide +kernel
theorem dX5_isSame_87 : decode cX5_isSame 87 = .ok (.iload 4, 2) := by decide +kernel
theorem dX5_isSame_89 : decode cX5_isSame 89 = .ok (.aaload, 1) := by decide +kernel
theorem dX5_isSame_90 : decode cX5_isSame 90 = .ok (.iload 5, 2) := by decide +kernel
theorem dX5_isSame_92 : decode cX5_isSame 92 = .ok (.aaload, 1) := by decide +kernel
theorem dX5_isSame_93 : decode cX5_isSame 93 = .ok (.iload 6, 2) := by decide +kernel
theorem dX5_isSame_95 : decode cX5_isSame 95 = .ok (.iaload, 1) := by decide +kernel
theorem dX5_isSame_96 : decode cX5_isSame 96 = .ok (.if_icmp .eq 5, 3) := by decide +kernel
theorem dX5_isSame_99 : decode cX5_isSame 99 = .ok (.iconst 0, 1) := by decide +kernel
theorem dX5_isSame_100 : decode cX5_isSame 100 = .ok (.ireturn, 1) := by decide +kernel
theorem dX5_isSame_101 : decode cX5_isSame 101 = .ok (.iinc 6 1, 3) := by decide +kernel
theorem dX5_isSame_104 : decode cX5_isSame 104 = .ok (.goto (-38), 3) := by decide +kernel
theorem dX5_isSame_107 : decode cX5_isSame 107 = .ok (.iinc 5 1, 3) := by decide +kernel
theorem dX5_isSame_110 : decode cX5_isSame 110 = .ok (.goto (-53), 3) := by decide +kernel
theorem dX5_isSame_113 : decode cX5_isSame 113 = .ok (.iload_n 2, 1) := by decide +kernel
theorem dX5_isSame_114 : decode cX5_isSame 114 = .ok (.aload_n 0, 1) := by decide +kernel
theorem dX5_isSame_115 : decode cX5_isSame 115 = .ok (.iload 4, 2) := by decide +kernel
theorem dX5_isSame_117 : decode cX5_isSame 117 = .ok (.iconst 2, 1) := by decide +kernel
theorem dX5_isSame_118 : decode cX5_isSame 118 = .ok (.invokevirtual 73, 3) := by decide +kernel
theorem dX5_isSame_121 : decode cX5_isSame 121 = .ok (.iadd, 1) := by decide +kernel
theorem dX5_isSame_122 : decode cX5_isSame 122 = .ok (.istore_n 2, 1) := by decide +kernel
theorem dX5_isSame_123 : decode cX5_isSame 123 = .ok (.iload_n 3, 1) := by decide +kernel
theorem dX5_isSame_124 : decode cX5_isSame 124 = .ok (.aload_n 0, 1) := by decide +kernel
theorem dX5_isSame_125 : decode cX5_isSame 125 = .ok (.iload 4, 2) := by decide +kernel
theorem dX5_isSame_127 : decode cX5_isSame 127 = .ok (.iconst 1, 1) := by decide +kernel
theorem dX5_isSame_128 : decode cX5_isSame 128 = .ok (.invokevirtual 73, 3) := by decide +kernel
theorem dX5_isSame_131 : decode cX5_isSame 131 = .ok (.iadd, 1) := by decide +kernel
theorem dX5_isSame_132 : decode cX5_isSame 132 = .ok (.istore_n 3, 1) := by decide +kernel
theorem dX5_isSame_133 : decode cX5_isSame 133 = .ok (.iinc 4 1, 3) := by decide +kernel
theorem dX5_isSame_136 : decode cX5_isSame 136 = .ok (.goto (-129), 3) := by decide +kernel
theorem dX5_isSame_139 : decode cX5_isSame 139 = .ok (.iconst 0, 1) := by decide +kernel
theorem dX5_isSame_140 : decode cX5_isSame 140 = .ok (.istore 4, 2) := by decide +kernel
theorem dX5_isSame_142 : decode cX5_isSame 142 = .ok (.iload 4, 2) := by decide +kernel
theorem dX5_isSame_144 : decode cX5_isSame 144 = .ok (.bipush 7, 2) := by decide +kernel
theorem dX5_isSame_146 : decode cX5_isSame 146 = .ok (.if_icmp .ge 119, 3) := by decide +kernel
theorem dX5_isSame_149 : decode cX5_isSame 149 = .ok (.iconst 4, 1) := by decide +kernel
theorem dX5_isSame_150 : decode cX5_isSame 150 = .ok (.newarray .int, 2) := by decide +kernel
theorem dX5_isSame_152 : decode cX5_isSame 152 = .ok (.dup, 1) := by decide +kernel
theorem dX5_isSame_153 : decode cX5_isSame 153 = .ok (.iconst 0, 1) := by decide +kernel
theorem dX5_isSame_154 : decode cX5_isSame 154 = .ok (.aload_n 0, 1) := by decide +kernel
theorem dX5_isSame_155 : decode cX5_isSame 155 = .ok (.getfield 16, 3) := by decide +kernel
theorem dX5_isSame_158 : decode cX5_isSame 158 = .ok (.iload 4, 2) := by decide +kernel
theorem dX5_isSame_160 : decode cX5_isSame 160 = .ok (.iaload, 1) := by decide +kernel
theorem dX5_isSame_161 : decode cX5_isSame 161 = .ok (.iastore, 1) := by decide +kernel
theorem dX5_isSame_162 : decode cX5_isSame 162 = .ok (.dup, 1) := by decide +kernel
theorem dX5_isSame_163 : decode cX5_isSame 163 = .ok (.iconst 1, 1) := by decide +kernel
theorem dX5_isSame_164 : decode cX5_isSame 164 = .ok (.aload_n 0, 1) := by decide +kernel
theorem dX5_isSame_165 : decode cX5_isSame 165 = .ok (.getfield 20, 3) := by decide +kernel
theorem dX5_isSame_168 : decode cX5_isSame 168 = .ok (.iload 4, 2) := by decide +kernel
theorem dX5_isSame_170 : decode cX5_isSame 170 = .ok (.iaload, 1) := by decide +kernel
theorem dX5_isSame_171 : decode cX5_isSame 171 = .ok (.iastore, 1) := by decide +kernel
theorem dX5_isSame_172 : decode cX5_isSame 172 = .ok (.dup, 1) := by decide +kernel
theorem dX5_isSame_173 : decode cX5_isSame 173 = .ok (.iconst 2, 1) := by decide +kernel
theorem dX5_isSame_174 : decode cX5_isSame 174 = .ok (.aload_n 0, 1) := by decide +kernel
theorem dX5_isSame_175 : decode cX5_isSame 175 = .ok (.getfield 23, 3) := by decide +kernel
theorem dX5_isSame_178 : decode cX5_isSame 178 = .ok (.iload 4, 2) := by decide +kernel
theorem dX5_isSame_180 : decode cX5_isSame 180 = .ok (.baload, 1) := by decide +kernel
theorem dX5_isSame_181 : decode cX5_isSame 181 = .ok (.ifCond .eq 7, 3) := by decide +kernel
theorem dX5_isSame_184 : decode cX5_isSame 184 = .ok (.iconst 0, 1) := by decide +kernel
theorem dX5_isSame_185 : decode cX5_isSame 185 = .ok (.goto 4, 3) := by decide +kernel
theorem dX5_isSame_188 : decode cX5_isSame 188 = .ok (.iconst 1, 1) := by decide +kernel
theorem dX5_isSame_189 : decode cX5_isSame 189 = .ok (.iastore, 1) := by decide +kernel
theorem dX5_isSame_190 : decode cX5_isSame 190 = .ok (.dup, 1) := by decide +kernel
theorem dX5_isSame_191 : decode cX5_isSame 191 = .ok (.iconst 3, 1) := by decide +kernel
theorem dX5_isSame_192 : decode cX5_isSame 192 = .ok (.aload_n 0, 1) := by decide +kernel
theorem dX5_isSame_193 : decode cX5_isSame 193 = .ok (.getfield 23, 3) := by decide +kernel
theorem dX5_isSame_196 : decode cX5_isSame 196 = .ok (.iload 4, 2) := by decide +kernel
theorem dX5_isSame_198 : decode cX5_isSame 198 = .ok (.baload, 1) := by decide +kernel
theorem dX5_isSame_199 : decode cX5_isSame 199 = .ok (.ifCond .eq 7, 3) := by decide +kernel
theorem dX5_isSame_202 : decode cX5_isSame 202 = .ok (.iconst 0, 1) := by decide +kernel
theorem dX5_isSame_203 : decode cX5_isSame 203 = .ok (.goto 20, 3) := by decide +kernel
theorem dX5_isSame_206 : decode cX5_isSame 206 = .ok (.aload_n 0, 1) := by decide +kernel
theorem dX5_isSame_207 : decode cX5_isSame 207 = .ok (.getfield 16, 3) := by decide +kernel
theorem dX5_isSame_210 : decode cX5_isSame 210 = .ok (.iload 4, 2) := by decide +kernel
theorem dX5_isSame_212 : decode cX5_isSame 212 = .ok (.iaload, 1) := by decide +kernel
theorem dX5_isSame_213 : decode cX5_isSame 213 = .ok (.iconst 1, 1) := by decide +kernel
theorem dX5_isSame_214 : decode cX5_isSame 214 = .ok (.iadd, 1) := by decide +kernel
theorem dX5_isSame_215 : decode cX5_isSame 215 = .ok (.aload_n 0, 1) := by decide +kernel
theorem dX5_isSame_216 : decode cX5_isSame 216 = .ok (.getfield 20, 3) := by decide +kernel
theorem dX5_isSame_219 : decode cX5_isSame 219 = .ok (.iload 4, 2) := by decide +kernel
theorem dX5_isSame_221 : decode cX5_isSame 221 = .ok (.iaload, 1) := by decide +kernel
theorem dX5_isSame_222 : decode cX5_isSame 222 = .ok (.isub, 1) := by decide +kernel
theorem dX5_isSame_223 : decode cX5_isSame 223 = .ok (.iastore, 1) := by decide +kernel
theorem dX5_isSame_224 : decode cX5_isSame 224 = .ok (.astore 5, 2) := by decide +kernel
theorem dX5_isSame_226 : decode cX5_isSame 226 = .ok (.iconst 0, 1) := by decide +kernel
theorem dX5_isSame_227 : decode cX5_isSame 227 = .ok (.istore 6, 2) := by decide +kernel
theorem dX5_isSame_229 : decode cX5_isSame 229 = .ok (.iload 6, 2) := by decide +kernel
theorem dX5_isSame_231 : decode cX5_isSame 231 = .ok (.iconst 4, 1) := by decide +kernel
theorem dX5_isSame_232 : decode cX5_isSame 232 = .ok (.if_icmp .ge 27, 3) := by decide +kernel
theorem dX5_isSame_235 : decode cX5_isSame 235 = .ok (.aload_n 1, 1) := by decide +kernel
theorem dX5_isSame_236 : decode cX5_isSame 236 = .ok (.iload 4, 2) := by decide +kernel
theorem dX5_isSame_238 : decode cX5_isSame 238 = .ok (.iload 6, 2) := by decide +kernel
theorem dX5_isSame_240 : decode cX5_isSame 240 = .ok (.invokevirtual 80, 3) := by decide +kernel
theorem dX5_isSame_243 : decode cX5_isSame 243 = .ok (.aload 5, 2) := by decide +kernel
theorem dX5_isSame_245 : decode cX5_isSame 245 = .ok (.iload 6, 2) := by decide +kernel
theorem dX5_isSame_247 : decode cX5_isSame 247 = .ok (.iaload, 1) := by decide +kernel
theorem dX5_isSame_248 : decode cX5_isSame 248 = .ok (.if_icmp .eq 5, 3) := by decide +kernel
theorem dX5_isSame_251 : decode cX5_isSame 251 = .ok (.iconst 0, 1) := by decide +kernel
theorem dX5_isSame_252 : decode cX5_isSame 252 = .ok (.ireturn, 1) := by decide +kernel
theorem dX5_isSame_253 : decode cX5_isSame 253 = .ok (.iinc 6 1, 3) := by decide +kernel
theorem dX5_isSame_256 : decode cX5_isSame 256 = .ok (.goto (-27), 3) := by decide +kernel
theorem dX5_isSame_259 : decode cX5_isSame 259 = .ok (.iinc 4 1, 3) := by decide +kernel
theorem dX5_isSame_262 : decode cX5_isSame 262 = .ok (.goto (-120), 3) := by decide +kernel
theorem dX5_isSame_265 : decode cX5_isSame 265 = .ok (.iconst 0, 1) := by decide +kernel
theorem dX5_isSame_266 : decode cX5_isSame 266 = .ok (.istore 4, 2) := by decide +kernel
theorem dX5_isSame_268 : decode cX5_isSame 268 = .ok (.aload_n 0, 1) := by decide +kernel
theorem dX5_isSame_269 : decode cX5_isSame 269 = .ok (.getfield 29, 3) := by decide +kernel
theorem dX5_isSame_272 : decode cX5_isSame 272 = .ok (.astore 5, 2) := by decide +kernel
theorem dX5_isSame_274 : decode cX5_isSame 274 = .ok (.aload 5, 2) := by decide +kernel
theorem dX5_isSame_276 : decode cX5_isSame 276 = .ok (.arraylength, 1) := by decide +kernel
theorem dX5_isSame_277 : decode cX5_isSame 277 = .ok (.istore 6, 2) := by decide +kernel
theorem dX5_isSame_279 : decode cX5_isSame 279 = .ok (.iconst 0, 1) := by decide +kernel
theorem dX5_isSame_280 : decode cX5_isSame 280 = .ok (.istore 7, 2) := by decide +kernel
theorem dX5_isSame_282 : decode cX5_isSame 282 = .ok (.iload 7, 2) := by decide +kernel
theorem dX5_isSame_284 : decode cX5_isSame 284 = .ok (.iload 6, 2) := by decide +kernel
theorem dX5_isSame_286 : decode cX5_isSame 286 = .ok (.if_icmp .ge 63, 3) := by decide +kernel
theorem dX5_isSame_289 : decode cX5_isSame 289 = .ok (.aload 5, 2) := by decide +kernel
theorem dX5_isSame_291 : decode cX5_isSame 291 = .ok (.iload 7, 2) := by decide +kernel
theorem dX5_isSame_293 : decode cX5_isSame 293 = .ok (.aaload, 1) := by decide +kernel
theorem dX5_isSame_294 : decode cX5_isSame 294 = .ok (.astore 8, 2) := by decide +kernel
theorem dX5_isSame_296 : decode cX5_isSame 296 = .ok (.aload 8, 2) := by decide +kernel
theorem dX5_isSame_298 : decode cX5_isSame 298 = .ok (.astore 9, 2) := by decide +kernel
theorem dX5_isSame_300 : decode cX5_isSame 300 = .ok (.aload 9, 2) := by decide +kernel
theorem dX5_isSame_302 : decode cX5_isSame 302 = .ok (.arraylength, 1) := by decide +kernel
theorem dX5_isSame_303 : decode cX5_isSame 303 = .ok (.istore 10, 2) := by decide +kernel
theorem dX5_isSame_305 : decode cX5_isSame 305 = .ok (.iconst 0, 1) := by decide +kernel
theorem dX5_isSame_306 : decode cX5_isSame 306 = .ok (.istore 11, 2) := by decide +kernel
theorem dX5_isSame_308 : decode cX5_isSame 308 = .ok (.iload 11, 2) := by decide +kernel
theorem dX5_isSame_310 : decode cX5_isSame 310 = .ok (.iload 10, 2) := by decide +kernel
theorem dX5_isSame_312 : decode cX5_isSame 312 = .ok (.if_icmp .ge 31, 3) := by decide +kernel
theorem dX5_isSame_315 : decode cX5_isSame 315 = .ok (.aload 9, 2) := by decide +kernel
theorem dX5_isSame_317 : decode cX5_isSame 317 = .ok (.iload 11, 2) := by decide +kernel
theorem dX5_isSame_319 : decode cX5_isSame 319 = .ok (.baload, 1) := by decide +kernel
theorem dX5_isSame_320 : decode cX5_isSame 320 = .ok (.istore 12, 2) := by decide +kernel
theorem dX5_isSame_322 : decode cX5_isSame 322 = .ok (.iload 4, 2) := by decide +kernel
theorem dX5_isSame_324 : decode cX5_isSame 324 = .ok (.iload 12, 2) := by decide +kernel
theorem dX5_isSame_326 : decode cX5_isSame 326 = .ok (.ifCond .eq 7, 3) := by decide +kernel
theorem dX5_isSame_329 : decode cX5_isSame 329 = .ok (.iconst 1, 1) := by decide +kernel
theorem dX5_isSame_330 : decode cX5_isSame 330 = .ok (.goto 4, 3) := by decide +kernel
theorem dX5_isSame_333 : decode cX5_isSame 333 = .ok (.iconst 0, 1) := by decide +kernel
theorem dX5_isSame_334 : decode cX5_isSame 334 = .ok (.iadd, 1) := by decide +kernel
theorem dX5_isSame_335 : decode cX5_isSame 335 = .ok (.istore 4, 2) := by decide +kernel
theorem dX5_isSame_337 : decode cX5_isSame 337 = .ok (.iinc 11 1, 3) := by decide +kernel
theorem dX5_isSame_340 : decode cX5_isSame 340 = .ok (.goto (-32), 3) := by decide +kernel
theorem dX5_isSame_343 : decode cX5_isSame 343 = .ok (.iinc 7 1, 3) := by decide +kernel
theorem dX5_isSame_346 : decode cX5_isSame 346 = .ok (.goto (-64), 3) := by decide +kernel
theorem dX5_isSame_349 : decode cX5_isSame 349 = .ok (.bipush 10, 2) := by decide +kernel
theorem dX5_isSame_351 : decode cX5_isSame 351 = .ok (.newarray .int, 2) := by decide +kernel
theorem dX5_isSame_353 : decode cX5_isSame 353 = .ok (.dup, 1) := by decide +kernel
theorem dX5_isSame_354 : decode cX5_isSame 354 = .ok (.iconst 0, 1) := by decide +kernel
theorem dX5_isSame_355 : decode cX5_isSame 355 = .ok (.aload_n 0, 1) := by decide +kernel
theorem dX5_isSame_356 : decode cX5_isSame 356 = .ok (.getfield 34, 3) := by decide +kernel
theorem dX5_isSame_359 : decode cX5_isSame 359 = .ok (.arraylength, 1) := by decide +kernel
theorem dX5_isSame_360 : decode cX5_isSame 360 = .ok (.iastore, 1) := by decide +kernel
theorem dX5_isSame_361 : decode cX5_isSame 361 = .ok (.dup, 1) := by decide +kernel
theorem dX5_isSame_362 : decode cX5_isSame 362 = .ok (.iconst 1, 1) := by decide +kernel
theorem dX5_isSame_363 : decode cX5_isSame 363 = .ok (.aload_n 0, 1) := by decide +kernel
theorem dX5_isSame_364 : decode cX5_isSame 364 = .ok (.getfield 7, 3) := by decide +kernel
theorem dX5_isSame_367 : decode cX5_isSame 367 = .ok (.iastore, 1) := by decide +kernel
theorem dX5_isSame_368 : decode cX5_isSame 368 = .ok (.dup, 1) := by decide +kernel
theorem dX5_isSame_369 : decode cX5_isSame 369 = .ok (.iconst 2, 1) := by decide +kernel
theorem dX5_isSame_370 : decode cX5_isSame 370 = .ok (.aload_n 0, 1) := by decide +kernel
theorem dX5_isSame_371 : decode cX5_isSame 371 = .ok (.getfield 43, 3) := by decide +kernel
theorem dX5_isSame_374 : decode cX5_isSame 374 = .ok (.iastore, 1) := by decide +kernel
theorem dX5_isSame_375 : decode cX5_isSame 375 = .ok (.dup, 1) := by decide +kernel
theorem dX5_isSame_376 : decode cX5_isSame 376 = .ok (.iconst 3, 1) := by decide +kernel
theorem dX5_isSame_377 : decode cX5_isSame 377 = .ok (.aload_n 0, 1) := by decide +kernel
theorem dX5_isSame_378 : decode cX5_isSame 378 = .ok (.getfield 46, 3) := by decide +kernel
theorem dX5_isSame_381 : decode cX5_isSame 381 = .ok (.iastore, 1) := by decide +kernel
theorem dX5_isSame_382 : decode cX5_isSame 382 = .ok (.dup, 1) := by decide +kernel
theorem dX5_isSame_383 : decode cX5_isSame 383 = .ok (.iconst 4, 1) := by decide +kernel
theorem dX5_isSame_384 : decode cX5_isSame 384 = .ok (.aload_n 0, 1) := by decide +kernel
theorem dX5_isSame_385 : decode cX5_isSame 385 = .ok (.getfield 52, 3) := by decide +kernel
theorem dX5_isSame_388 : decode cX5_isSame 388 = .ok (.iastore, 1) := by decide +kernel
theorem dX5_isSame_389 : decode cX5_isSame 389 = .ok (.dup, 1) := by decide +kernel
theorem dX5_isSame_390 : decode cX5_isSame 390 = .ok (.iconst 5, 1) := by decide +kernel
theorem dX5_isSame_391 : decode cX5_isSame 391 = .ok (.aload_n 0, 1) := by decide +kernel
theorem dX5_isSame_392 : decode cX5_isSame 392 = .ok (.getfield 13, 3) := by decide +kernel
theorem dX5_isSame_395 : decode cX5_isSame 395 = .ok (.iastore, 1) := by decide +kernel
theorem dX5_isSame_396 : decode cX5_isSame 396 = .ok (.dup, 1) := by decide +kernel
theorem dX5_isSame_397 : decode cX5_isSame 397 = .ok (.bipush 6, 2) := by decide +kernel
theorem dX5_isSame_399 : decode cX5_isSame 399 = .ok (.aload_n 0, 1) := by decide +kernel
theorem dX5_isSame_400 : decode cX5_isSame 400 = .ok (.getfield 49, 3) := by decide +kernel
theorem dX5_isSame_403 : decode cX5_isSame 403 = .ok (.iastore, 1) := by decide +kernel
theorem dX5_isSame_404 : decode cX5_isSame 404 = .ok (.dup, 1) := by decide +kernel
theorem dX5_isSame_405 : decode cX5_isSame 405 = .ok (.bipush 7, 2) := by decide +kernel
theorem dX5_isSame_407 : decode cX5_isSame 407 = .ok (.aload_n 0, 1) := by decide +kernel
theorem dX5_isSame_408 : decode cX5_isSame 408 = .ok (.invokevirtual 83, 3) := by decide +kernel
theorem dX5_isSame_411 : decode cX5_isSame 411 = .ok (.iastore, 1) := by decide +kernel
theorem dX5_isSame_412 : decode cX5_isSame 412 = .ok (.dup, 1) := by decide +kernel
theorem dX5_isSame_413 : decode cX5_isSame 413 = .ok (.bipush 8, 2) := by decide +kernel
theorem dX5_isSame_415 : decode cX5_isSame 415 = .ok (.iload 4, 2) := by decide +kernel
theorem dX5_isSame_417 : decode cX5_isSame 417 = .ok (.iastore, 1) := by decide +kernel
theorem dX5_isSame_418 : decode cX5_isSame 418 = .ok (.dup, 1) := by decide +kernel
theorem dX5_isSame_419 : decode cX5_isSame 419 = .ok (.bipush 9, 2) := by decide +kernel
theorem dX5_isSame_421 : decode cX5_isSame 421 = .ok (.iload_n 2, 1) := by decide +kernel
theorem dX5_isSame_422 : decode cX5_isSame 422 = .ok (.iastore, 1) := by decide +kernel
theorem dX5_isSame_423 : decode cX5_isSame 423 = .ok (.astore 5, 2) := by decide +kernel
theorem dX5_isSame_425 : decode cX5_isSame 425 = .ok (.iconst 0, 1) := by decide +kernel
theorem dX5_isSame_426 : decode cX5_isSame 426 = .ok (.istore 6, 2) := by decide +kernel
theorem dX5_isSame_428 : decode cX5_isSame 428 = .ok (.iload 6, 2) := by decide +kernel
theorem dX5_isSame_430 : decode cX5_isSame 430 = .ok (.bipush 10, 2) := by decide +kernel
theorem dX5_isSame_432 : decode cX5_isSame 432 = .ok (.if_icmp .ge 25, 3) := by decide +kernel
theorem dX5_isSame_435 : decode cX5_isSame 435 = .ok (.aload_n 1, 1) := by decide +kernel
theorem dX5_isSame_436 : decode cX5_isSame 436 = .ok (.iload 6, 2) := by decide +kernel
theorem dX5_isSame_438 : decode cX5_isSame 438 = .ok (.invokevirtual 86, 3) := by decide +kernel
theorem dX5_isSame_441 : decode cX5_isSame 441 = .ok (.aload 5, 2) := by decide +kernel
theorem dX5_isSame_443 : decode cX5_isSame 443 = .ok (.iload 6, 2) := by decide +kernel
theorem dX5_isSame_445 : decode cX5_isSame 445 = .ok (.iaload, 1) := by decide +kernel
theorem dX5_isSame_446 : decode cX5_isSame 446 = .ok (.if_icmp .eq 5, 3) := by decide +kernel
theorem dX5_isSame_449 : decode cX5_isSame 449 = .ok (.iconst 0, 1) := by decide +kernel
theorem dX5_isSame_450 : decode cX5_isSame 450 = .ok (.ireturn, 1) := by decide +kernel
theorem dX5_isSame_451 : decode cX5_isSame 451 = .ok (.iinc 6 1, 3) := by decide +kernel
theorem dX5_isSame_454 : decode cX5_isSame 454 = .ok (.goto (-26), 3) := by decide +kernel
theorem dX5_isSame_457 : decode cX5_isSame 457 = .ok (.aload_n 1, 1) := by decide +kernel
theorem dX5_isSame_458 : decode cX5_isSame 458 = .ok (.invokevirtual 90, 3) := by decide +kernel
theorem dX5_isSame_461 : decode cX5_isSame 461 = .ok (.aload_n 0, 1) := by decide +kernel
theorem dX5_isSame_462 : decode cX5_isSame 462 = .ok (.getfield 34, 3) := by decide +kernel
theorem dX5_isSame_465 : decode cX5_isSame 465 = .ok (.arraylength, 1) := by decide +kernel
theorem dX5_isSame_466 : decode cX5_isSame 466 = .ok (.ifCond .ne 7, 3) := by decide +kernel
theorem dX5_isSame_469 : decode cX5_isSame 469 = .ok (.dconst 0, 1) := by decide +kernel
theorem dX5_isSame_470 : decode cX5_isSame 470 = .ok (.goto 15, 3) := by decide +kernel
theorem dX5_isSame_473 : decode cX5_isSame 473 = .ok (.iload_n 3, 1) := by decide +kernel
theorem dX5_isSame_474 : decode cX5_isSame 474 = .ok (.i2d, 1) := by decide +kernel
theorem dX5_isSame_475 : decode cX5_isSame 475 = .ok (.bipush 30, 2) := by decide +kernel
theorem dX5_isSame_477 : decode cX5_isSame 477 = .ok (.aload_n 0, 1) := by decide +kernel
theorem dX5_isSame_478 : decode cX5_isSame 478 = .ok (.getfield 34, 3) := by decide +kernel
theorem dX5_isSame_481 : decode cX5_isSame 481 = .ok (.arraylength, 1) := by decide +kernel
theorem dX5_isSame_482 : decode cX5_isSame 482 = .ok (.imul, 1) := by decide +kernel
theorem dX5_isSame_483 : decode cX5_isSame 483 = .ok (.i2d, 1) := by decide +kernel
theorem dX5_isSame_484 : decode cX5_isSame 484 = .ok (.ddiv, 1) := by decide +kernel
theorem dX5_isSame_485 : decode cX5_isSame 485 = .ok (.dcmp .l, 1) := by decide +kernel
theorem dX5_isSame_486 : decode cX5_isSame 486 = .ok (.ifCond .ne 7, 3) := by decide +kernel
theorem dX5_isSame_489 : decode cX5_isSame 489 = .ok (.iconst 1, 1) := by decide +kernel
theorem dX5_isSame_490 : decode cX5_isSame 490 = .ok (.goto 4, 3) := by decide +kernel
theorem dX5_isSame_493 : decode cX5_isSame 493 = .ok (.iconst 0, 1) := by decide +kernel
theorem dX5_isSame_494 : decode cX5_isSame 494 = .ok (.ireturn, 1) := by decide +kernel
theorem dJ9_max_7cf53_0 : decode cJ9_max_7cf53 0 = .ok (.iload_n 0, 1) := by decide +kernel
theorem dJ9_max_7cf53_1 : decode cJ9_max_7cf53 1 = .ok (.iload_n 1, 1) := by decide +kernel
theorem dJ9_max_7cf53_2 : decode cJ9_max_7cf53 2 = .ok (.if_icmp .lt 7, 3) := by decide +kernel
theorem dJ9_max_7cf53_5 : decode cJ9_max_7cf53 5 = .ok (.iload_n 0, 1) := by decide +kernel
theorem dJ9_max_7cf53_6 : decode cJ9_max_7cf53 6 = .ok (.goto 4, 3) := by decide +kernel
theorem dJ9_max_7cf53_9 : decode cJ9_max_7cf53 9 = .ok (.iload_n 1, 1) := by decide +kernel
theorem dJ9_max_7cf53_10 : decode cJ9_max_7cf53 10 = .ok (.ireturn, 1) := by decide +kernel
theorem dJ9_min_7cf53_0 : decode cJ9_min_7cf53 0 = .ok (.iload_n 0, 1) := by decide +kernel
theorem dJ9_min_7cf53_1 : decode cJ9_min_7cf53 1 = .ok (.iload_n 1, 1) := by decide +kernel
theorem dJ9_min_7cf53_2 : decode cJ9_min_7cf53 2 = .ok (.if_icmp .gt 7, 3) := by decide +kernel
theorem dJ9_min_7cf53_5 : decode cJ9_min_7cf53 5 = .ok (.iload_n 0, 1) := by decide +kernel
theorem dJ9_min_7cf53_6 : decode cJ9_min_7cf53 6 = .ok (.goto 4, 3) := by decide +kernel
theorem dJ9_min_7cf53_9 : decode cJ9_min_7cf53 9 = .ok (.iload_n 1, 1) := by decide +kernel
theorem dJ9_min_7cf53_10 : decode cJ9_min_7cf53 10 = .ok (.ireturn, 1) := by decide +kernel
theorem dL_below_0 : decode cL_below 0 = .ok (.iload_n 0, 1) := by decide +kernel
theorem dL_below_1 : decode cL_below 1 = .ok (.ldc 7, 2) := by decide +kernel
theorem dL_below_3 : decode cL_below 3 = .ok (.iand, 1) := by decide +kernel
theorem dL_below_4 : decode cL_below 4 = .ok (.iload_n 1, 1) := by decide +kernel
theorem dL_below_5 : decode cL_below 5 = .ok (.irem, 1) := by decide +kernel
theorem dL_below_6 : decode cL_below 6 = .ok (.ireturn, 1) := by decide +kernel
theorem dL_cell_0 : decode cL_cell 0 = .ok (.iload_n 1, 1) := by decide +kernel
theorem dL_cell_1 : decode cL_cell 1 = .ok (.aload_n 0, 1) := by decide +kernel
theorem dL_cell_2 : decode cL_cell 2 = .ok (.arraylength, 1) := by decide +kernel
theorem dL_cell_3 : decode cL_cell 3 = .ok (.if_icmp .ge 9, 3) := by decide +kernel
theorem dL_cell_6 : decode cL_cell 6 = .ok (.aload_n 0, 1) := by decide +kernel
theorem dL_cell_7 : decode cL_cell 7 = .ok (.iload_n 1, 1) := by decide +kernel
theorem dL_cell_8 : decode cL_cell 8 = .ok (.iaload, 1) := by decide +kernel
theorem dL_cell_9 : decode cL_cell 9 = .ok (.goto 9, 3) := by decide +kernel
theorem dL_cell_12 : decode cL_cell 12 = .ok (.ldc 8, 2) := by decide +kernel
theorem dL_cell_14 : decode cL_cell 14 = .ok (.iload_n 1, 1) := by decide +kernel
theorem dL_cell_15 : decode cL_cell 15 = .ok (.iconst 3, 1) := by decide +kernel
theorem dL_cell_16 : decode cL_cell 16 = .ok (.iadd, 1) := by decide +kernel
theorem dL_cell_17 : decode cL_cell 17 = .ok (.imul, 1) := by decide +kernel
theorem dL_cell_18 : decode cL_cell 18 = .ok (.ireturn, 1) := by decide +kernel
set_option maxRecDepth 20000 in
theorem ggL_act_L_below : GoodIn wsL_act wsL_below := goodIn_r _ [22, 23] (by decide +kernel) (by decide +kernel)
set_option maxRecDepth 20000 in
theorem gL_act_L_below : GoodIn wsL_act (va_wsS RL 15 yL_below wsL_below) := goodIn_app (goodIn_of _ (by decide +kernel)) ggL_act_L_below
set_option maxRecDepth 20000 in
theorem ggL_act_X4_setFeed : GoodIn wsL_act wsX4_setFeed := goodIn_ca (goodIn_r _ [28, 29, 30, 31, 32, 33, 27, 34, 170, 171, 172, 173, 174, 175, 176, 177, 178, 179, 180, 181] (by decide +kernel) (by decide +kernel)) (goodIn_sub (fun _ h => List.mem_cons_of_mem _ (List.mem_append_left _ (List.mem_append_left _ (List.mem_append_right _ h)))) (by decide +kernel))
set_option maxRecDepth 20000 in
theorem gL_act_X4_setFeed : GoodIn wsL_act (wsV RL 28 RX4 yX4_setFeed wsX4_setFeed) := goodIn_app (goodIn_of _ (by decide +kernel)) ggL_act_X4_setFeed
set_option maxRecDepth 20000 in
theorem ggL_act_X4_align : GoodIn wsL_act wsX4_align := goodIn_r _ [38, 31, 170, 171, 172, 173, 174, 175, 176, 177, 178, 179, 180, 181] (by decide +kernel) (by decide +kernel)
