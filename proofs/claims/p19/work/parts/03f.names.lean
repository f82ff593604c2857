set_option maxRecDepth 20000 in
theorem gX0_perforate_X0_markRow : GoodIn wsX0_perforate (wsV RX0 41 RX0 yX0_markRow wsX0_markRow) := goodIn_app (goodIn_of _ (by decide +kernel)) ggX0_perforate_X0_markRow
set_option maxRecDepth 20000 in
theorem ggX0_perforate_X0_strikeAll : GoodIn wsX0_perforate wsX0_strikeAll := goodIn_r _ [41, 25, 42, 43, 44, 29, 45, 31, 46, 27, 28, 30, 32, 47, 48, 49, 50, 51, 52, 53, 56, 57] (by decide +kernel) (by decide +kernel)
set_option maxRecDepth 20000 in
theorem gX0_perforate_X0_strikeAll : GoodIn wsX0_perforate (wsV RX0 45 RX0 yX0_strikeAll wsX0_strikeAll) := goodIn_app (goodIn_of _ (by decide +kernel)) ggX0_perforate_X0_strikeAll
theorem dX0_perforate_0 : decode cX0_perforate 0 = .ok (.iconst 0, 1) := by decide +kernel
theorem dX0_perforate_1 : decode cX0_perforate 1 = .ok (.istore_n 3, 1) := by decide +kernel
theorem dX0_perforate_2 : decode cX0_perforate 2 = .ok (.iload_n 3, 1) := by decide +kernel
theorem dX0_perforate_3 : decode cX0_perforate 3 = .ok (.iconst 5, 1) := by decide +kernel
theorem dX0_perforate_4 : decode cX0_perforate 4 = .ok (.if_icmp .ge 56, 3) := by decide +kernel
theorem dX0_perforate_7 : decode cX0_perforate 7 = .ok (.aload_n 0, 1) := by decide +kernel
theorem dX0_perforate_8 : decode cX0_perforate 8 = .ok (.dup, 1) := by decide +kernel
theorem dX0_perforate_9 : decode cX0_perforate 9 = .ok (.getfield 32, 3) := by decide +kernel
theorem dX0_perforate_12 : decode cX0_perforate 12 = .ok (.aload_n 0, 1) := by decide +kernel
theorem dX0_perforate_13 : decode cX0_perforate 13 = .ok (.getfield 9, 3) := by decide +kernel
theorem dX0_perforate_16 : decode cX0_perforate 16 = .ok (.bipush 20, 2) := by decide +kernel
theorem dX0_perforate_18 : decode cX0_perforate 18 = .ok (.isub, 1) := by decide +kernel
theorem dX0_perforate_19 : decode cX0_perforate 19 = .ok (.iadd, 1) := by decide +kernel
theorem dX0_perforate_20 : decode cX0_perforate 20 = .ok (.putfield 32, 3) := by decide +kernel
theorem dX0_perforate_23 : decode cX0_perforate 23 = .ok (.aload_n 0, 1) := by decide +kernel
theorem dX0_perforate_24 : decode cX0_perforate 24 = .ok (.iload_n 3, 1) := by decide +kernel
theorem dX0_perforate_25 : decode cX0_perforate 25 = .ok (.aload_n 1, 1) := by decide +kernel
theorem dX0_perforate_26 : decode cX0_perforate 26 = .ok (.aload_n 2, 1) := by decide +kernel
theorem dX0_perforate_27 : decode cX0_perforate 27 = .ok (.invokevirtual 41, 3) := by decide +kernel
theorem dX0_perforate_30 : decode cX0_perforate 30 = .ok (.aload_n 0, 1) := by decide +kernel
theorem dX0_perforate_31 : decode cX0_perforate 31 = .ok (.invokevirtual 45, 3) := by decide +kernel
theorem dX0_perforate_34 : decode cX0_perforate 34 = .ok (.aload_n 0, 1) := by decide +kernel
theorem dX0_perforate_35 : decode cX0_perforate 35 = .ok (.dup, 1) := by decide +kernel
theorem dX0_perforate_36 : decode cX0_perforate 36 = .ok (.getfield 35, 3) := by decide +kernel
theorem dX0_perforate_39 : decode cX0_perforate 39 = .ok (.iconst 1, 1) := by decide +kernel
theorem dX0_perforate_40 : decode cX0_perforate 40 = .ok (.isub, 1) := by decide +kernel
theorem dX0_perforate_41 : decode cX0_perforate 41 = .ok (.putfield 35, 3) := by decide +kernel
theorem dX0_perforate_44 : decode cX0_perforate 44 = .ok (.aload_n 0, 1) := by decide +kernel
theorem dX0_perforate_45 : decode cX0_perforate 45 = .ok (.dup, 1) := by decide +kernel
theorem dX0_perforate_46 : decode cX0_perforate 46 = .ok (.getfield 38, 3) := by decide +kernel
theorem dX0_perforate_49 : decode cX0_perforate 49 = .ok (.iconst 1, 1) := by decide +kernel
theorem dX0_perforate_50 : decode cX0_perforate 50 = .ok (.iadd, 1) := by decide +kernel
theorem dX0_perforate_51 : decode cX0_perforate 51 = .ok (.putfield 38, 3) := by decide +kernel
theorem dX0_perforate_54 : decode cX0_perforate 54 = .ok (.iinc 3 1, 3) := by decide +kernel
theorem dX0_perforate_57 : decode cX0_perforate 57 = .ok (.goto (-55), 3) := by decide +kernel
theorem dX0_perforate_60 : decode cX0_perforate 60 = .ok (.aload_n 0, 1) := by decide +kernel
theorem dX0_perforate_61 : decode cX0_perforate 61 = .ok (.bipush 10, 2) := by decide +kernel
theorem dX0_perforate_63 : decode cX0_perforate 63 = .ok (.bipush 30, 2) := by decide +kernel
theorem dX0_perforate_65 : decode cX0_perforate 65 = .ok (.aload_n 0, 1) := by decide +kernel
theorem dX0_perforate_66 : decode cX0_perforate 66 = .ok (.getfield 9, 3) := by decide +kernel
theorem dX0_perforate_69 : decode cX0_perforate 69 = .ok (.aload_n 0, 1) := by decide +kernel
theorem dX0_perforate_70 : decode cX0_perforate 70 = .ok (.getfield 29, 3) := by decide +kernel
theorem dX0_perforate_73 : decode cX0_perforate 73 = .ok (.iadd, 1) := by decide +kernel
theorem dX0_perforate_74 : decode cX0_perforate 74 = .ok (.invokestatic 48, 3) := by decide +kernel
theorem dX0_perforate_77 : decode cX0_perforate 77 = .ok (.invokestatic 54, 3) := by decide +kernel
theorem dX0_perforate_80 : decode cX0_perforate 80 = .ok (.putfield 9, 3) := by decide +kernel
theorem dX0_perforate_83 : decode cX0_perforate 83 = .ok (.return_, 1) := by decide +kernel
set_option maxRecDepth 20000 in
theorem ggX0_markRow_X4_isWithin : GoodIn wsX0_markRow wsX4_isWithin := goodIn_r _ [4] (by decide +kernel) (by decide +kernel)
set_option maxRecDepth 20000 in
theorem gX0_markRow_X4_isWithin_n57 : GoodIn wsX0_markRow (wsX4_isWithin) := ggX0_markRow_X4_isWithin
set_option maxRecDepth 20000 in
theorem ggX0_markRow_X0_holeFaults : GoodIn wsX0_markRow wsX0_holeFaults := goodIn_r _ [9, 10, 11, 12, 13, 14, 15, 16, 17, 24, 25, 26, 27, 28, 29, 30, 33, 34] (by decide +kernel) (by decide +kernel)
set_option maxRecDepth 20000 in
theorem gX0_markRow_X0_holeFaults : GoodIn wsX0_markRow (wsV RX0 61 RX0 yX0_holeFaults wsX0_holeFaults) := goodIn_app (goodIn_of _ (by decide +kernel)) ggX0_markRow_X0_holeFaults
set_option maxRecDepth 20000 in
theorem ggX0_markRow_X0_hasWatermark : GoodIn wsX0_markRow wsX0_hasWatermark := goodIn_r _ [21, 22, 23, 24, 25, 26, 27, 28, 29, 30] (by decide +kernel) (by decide +kernel)
set_option maxRecDepth 20000 in
theorem gX0_markRow_X0_hasWatermark : GoodIn wsX0_markRow (wsV RX0 65 RX0 yX0_hasWatermark wsX0_hasWatermark) := goodIn_app (goodIn_of _ (by decide +kernel)) ggX0_markRow_X0_hasWatermark
theorem dX0_markRow_0 : decode cX0_markRow 0 = .ok (.aload_n 0, 1) := by decide +kernel
theorem dX0_markRow_1 : decode cX0_markRow 1 = .ok (.getfield 32, 3) := by decide +kernel
theorem dX0_markRow_4 : decode cX0_markRow 4 = .ok (.bipush (-6), 2) := by decide +kernel
theorem dX0_markRow_6 : decode cX0_markRow 6 = .ok (.bipush 6, 2) := by decide +kernel
theorem dX0_markRow_8 : decode cX0_markRow 8 = .ok (.invokestatic 57, 3) := by decide +kernel
theorem dX0_markRow_11 : decode cX0_markRow 11 = .ok (.ifCond .eq 7, 3) := by decide +kernel
theorem dX0_markRow_14 : decode cX0_markRow 14 = .ok (.iconst 0, 1) := by decide +kernel
theorem dX0_markRow_15 : decode cX0_markRow 15 = .ok (.goto 4, 3) := by decide +kernel
theorem dX0_markRow_18 : decode cX0_markRow 18 = .ok (.iconst 1, 1) := by decide +kernel
theorem dX0_markRow_19 : decode cX0_markRow 19 = .ok (.istore 4, 2) := by decide +kernel
theorem dX0_markRow_21 : decode cX0_markRow 21 = .ok (.iconst 0, 1) := by decide +kernel
theorem dX0_markRow_22 : decode cX0_markRow 22 = .ok (.istore 5, 2) := by decide +kernel
theorem dX0_markRow_24 : decode cX0_markRow 24 = .ok (.iload 5, 2) := by decide +kernel
theorem dX0_markRow_26 : decode cX0_markRow 26 = .ok (.bipush 6, 2) := by decide +kernel
theorem dX0_markRow_28 : decode cX0_markRow 28 = .ok (.if_icmp .ge 68, 3) := by decide +kernel
theorem dX0_markRow_31 : decode cX0_markRow 31 = .ok (.bipush 6, 2) := by decide +kernel
theorem dX0_markRow_33 : decode cX0_markRow 33 = .ok (.iload_n 1, 1) := by decide +kernel
theorem dX0_markRow_34 : decode cX0_markRow 34 = .ok (.imul, 1) := by decide +kernel
theorem dX0_markRow_35 : decode cX0_markRow 35 = .ok (.iload 5, 2) := by decide +kernel
theorem dX0_markRow_37 : decode cX0_markRow 37 = .ok (.iadd, 1) := by decide +kernel
theorem dX0_markRow_38 : decode cX0_markRow 38 = .ok (.istore 6, 2) := by decide +kernel
theorem dX0_markRow_40 : decode cX0_markRow 40 = .ok (.iload 4, 2) := by decide +kernel
theorem dX0_markRow_42 : decode cX0_markRow 42 = .ok (.aload_n 0, 1) := by decide +kernel
theorem dX0_markRow_43 : decode cX0_markRow 43 = .ok (.iload 5, 2) := by decide +kernel
theorem dX0_markRow_45 : decode cX0_markRow 45 = .ok (.invokevirtual 61, 3) := by decide +kernel
theorem dX0_markRow_48 : decode cX0_markRow 48 = .ok (.ior, 1) := by decide +kernel
theorem dX0_markRow_49 : decode cX0_markRow 49 = .ok (.istore 7, 2) := by decide +kernel
theorem dX0_markRow_51 : decode cX0_markRow 51 = .ok (.aload_n 2, 1) := by decide +kernel
theorem dX0_markRow_52 : decode cX0_markRow 52 = .ok (.iload 6, 2) := by decide +kernel
theorem dX0_markRow_54 : decode cX0_markRow 54 = .ok (.baload, 1) := by decide +kernel
theorem dX0_markRow_55 : decode cX0_markRow 55 = .ok (.ifCond .eq 10, 3) := by decide +kernel
theorem dX0_markRow_58 : decode cX0_markRow 58 = .ok (.iload 7, 2) := by decide +kernel
theorem dX0_markRow_60 : decode cX0_markRow 60 = .ok (.bipush 8, 2) := by decide +kernel
theorem dX0_markRow_62 : decode cX0_markRow 62 = .ok (.ior, 1) := by decide +kernel
theorem dX0_markRow_63 : decode cX0_markRow 63 = .ok (.istore 7, 2) := by decide +kernel
theorem dX0_markRow_65 : decode cX0_markRow 65 = .ok (.aload_n 0, 1) := by decide +kernel
theorem dX0_markRow_66 : decode cX0_markRow 66 = .ok (.iload 5, 2) := by decide +kernel
theorem dX0_markRow_68 : decode cX0_markRow 68 = .ok (.invokevirtual 65, 3) := by decide +kernel
theorem dX0_markRow_71 : decode cX0_markRow 71 = .ok (.ifCond .ne 10, 3) := by decide +kernel
theorem dX0_markRow_74 : decode cX0_markRow 74 = .ok (.iload 7, 2) := by decide +kernel
theorem dX0_markRow_76 : decode cX0_markRow 76 = .ok (.bipush 16, 2) := by decide +kernel
theorem dX0_markRow_78 : decode cX0_markRow 78 = .ok (.ior, 1) := by decide +kernel
theorem dX0_markRow_79 : decode cX0_markRow 79 = .ok (.istore 7, 2) := by decide +kernel
theorem dX0_markRow_81 : decode cX0_markRow 81 = .ok (.aload_n 3, 1) := by decide +kernel
theorem dX0_markRow_82 : decode cX0_markRow 82 = .ok (.getfield 69, 3) := by decide +kernel
theorem dX0_markRow_85 : decode cX0_markRow 85 = .ok (.iload 6, 2) := by decide +kernel
theorem dX0_markRow_87 : decode cX0_markRow 87 = .ok (.iload 7, 2) := by decide +kernel
theorem dX0_markRow_89 : decode cX0_markRow 89 = .ok (.iastore, 1) := by decide +kernel
theorem dX0_markRow_90 : decode cX0_markRow 90 = .ok (.iinc 5 1, 3) := by decide +kernel
theorem dX0_markRow_93 : decode cX0_markRow 93 = .ok (.goto (-69), 3) := by decide +kernel
theorem dX0_markRow_96 : decode cX0_markRow 96 = .ok (.return_, 1) := by decide +kernel
set_option maxRecDepth 20000 in
theorem ggX0_holeFaults_X1_isWhole : GoodIn wsX0_holeFaults wsX1_isWhole := goodIn_r _ [6, 7, 8, 16, 17] (by decide +kernel) (by decide +kernel)
set_option maxRecDepth 20000 in
theorem gX0_holeFaults_X1_isWhole : GoodIn wsX0_holeFaults (wsV RX0 75 RX1 yX1_isWhole wsX1_isWhole) := goodIn_app (goodIn_of _ (by decide +kernel)) ggX0_holeFaults_X1_isWhole
theorem dX0_holeFaults_0 : decode cX0_holeFaults 0 = .ok (.iconst 0, 1) := by decide +kernel
theorem dX0_holeFaults_1 : decode cX0_holeFaults 1 = .ok (.istore_n 2, 1) := by decide +kernel
theorem dX0_holeFaults_2 : decode cX0_holeFaults 2 = .ok (.aload_n 0, 1) := by decide +kernel
theorem dX0_holeFaults_3 : decode cX0_holeFaults 3 = .ok (.getfield 20, 3) := by decide +kernel
theorem dX0_holeFaults_6 : decode cX0_holeFaults 6 = .ok (.iload_n 1, 1) := by decide +kernel
theorem dX0_holeFaults_7 : decode cX0_holeFaults 7 = .ok (.aaload, 1) := by decide +kernel
theorem dX0_holeFaults_8 : decode cX0_holeFaults 8 = .ok (.invokevirtual 75, 3) := by decide +kernel
theorem dX0_holeFaults_11 : decode cX0_holeFaults 11 = .ok (.ifCond .ne 7, 3) := by decide +kernel
theorem dX0_holeFaults_14 : decode cX0_holeFaults 14 = .ok (.iload_n 2, 1) := by decide +kernel
theorem dX0_holeFaults_15 : decode cX0_holeFaults 15 = .ok (.iconst 2, 1) := by decide +kernel
theorem dX0_holeFaults_16 : decode cX0_holeFaults 16 = .ok (.ior, 1) := by decide +kernel
theorem dX0_holeFaults_17 : decode cX0_holeFaults 17 = .ok (.istore_n 2, 1) := by decide +kernel
theorem dX0_holeFaults_18 : decode cX0_holeFaults 18 = .ok (.aload_n 0, 1) := by decide +kernel
theorem dX0_holeFaults_19 : decode cX0_holeFaults 19 = .ok (.getfield 20, 3) := by decide +kernel
theorem dX0_holeFaults_22 : decode cX0_holeFaults 22 = .ok (.iload_n 1, 1) := by decide +kernel
theorem dX0_holeFaults_23 : decode cX0_holeFaults 23 = .ok (.iconst 1, 1) := by decide +kernel
theorem dX0_holeFaults_24 : decode cX0_holeFaults 24 = .ok (.iadd, 1) := by decide +kernel
theorem dX0_holeFaults_25 : decode cX0_holeFaults 25 = .ok (.aaload, 1) := by decide +kernel
theorem dX0_holeFaults_26 : decode cX0_holeFaults 26 = .ok (.invokevirtual 75, 3) := by decide +kernel
theorem dX0_holeFaults_29 : decode cX0_holeFaults 29 = .ok (.ifCond .ne 7, 3) := by decide +kernel
theorem dX0_holeFaults_32 : decode cX0_holeFaults 32 = .ok (.iload_n 2, 1) := by decide +kernel
theorem dX0_holeFaults_33 : decode cX0_holeFaults 33 = .ok (.iconst 4, 1) := by decide +kernel
theorem dX0_holeFaults_34 : decode cX0_holeFaults 34 = .ok (.ior, 1) := by decide +kernel
theorem dX0_holeFaults_35 : decode cX0_holeFaults 35 = .ok (.istore_n 2, 1) := by decide +kernel
theorem dX0_holeFaults_36 : decode cX0_holeFaults 36 = .ok (.iload_n 2, 1) := by decide +kernel
theorem dX0_holeFaults_37 : decode cX0_holeFaults 37 = .ok (.ireturn, 1) := by decide +kernel
theorem dX0_hasWatermark_0 : decode cX0_hasWatermark 0 = .ok (.aload_n 0, 1) := by decide +kernel
theorem dX0_hasWatermark_1 : decode cX0_hasWatermark 1 = .ok (.getfield 15, 3) := by decide +kernel
theorem dX0_hasWatermark_4 : decode cX0_hasWatermark 4 = .ok (.ifCond .le 21, 3) := by decide +kernel
theorem dX0_hasWatermark_7 : decode cX0_hasWatermark 7 = .ok (.aload_n 0, 1) := by decide +kernel
theorem dX0_hasWatermark_8 : decode cX0_hasWatermark 8 = .ok (.getfield 38, 3) := by decide +kernel
theorem dX0_hasWatermark_11 : decode cX0_hasWatermark 11 = .ok (.iload_n 1, 1) := by decide +kernel
theorem dX0_hasWatermark_12 : decode cX0_hasWatermark 12 = .ok (.iadd, 1) := by decide +kernel
theorem dX0_hasWatermark_13 : decode cX0_hasWatermark 13 = .ok (.aload_n 0, 1) := by decide +kernel
theorem dX0_hasWatermark_14 : decode cX0_hasWatermark 14 = .ok (.getfield 15, 3) := by decide +kernel
theorem dX0_hasWatermark_17 : decode cX0_hasWatermark 17 = .ok (.irem, 1) := by decide +kernel
theorem dX0_hasWatermark_18 : decode cX0_hasWatermark 18 = .ok (.ifCond .ne 7, 3) := by decide +kernel
theorem dX0_hasWatermark_21 : decode cX0_hasWatermark 21 = .ok (.iconst 1, 1) := by decide +kernel
theorem dX0_hasWatermark_22 : decode cX0_hasWatermark 22 = .ok (.goto 4, 3) := by decide +kernel
theorem dX0_hasWatermark_25 : decode cX0_hasWatermark 25 = .ok (.iconst 0, 1) := by decide +kernel
theorem dX0_hasWatermark_26 : decode cX0_hasWatermark 26 = .ok (.ireturn, 1) := by decide +kernel
set_option maxRecDepth 20000 in
theorem ggX0_strikeAll_X1_strike : GoodIn wsX0_strikeAll wsX1_strike := goodIn_r _ [6, 7, 8, 9, 10, 5, 11, 12, 20, 21] (by decide +kernel) (by decide +kernel)
set_option maxRecDepth 20000 in
theorem gX0_strikeAll_X1_strike : GoodIn wsX0_strikeAll (wsV RX0 79 RX1 yX1_strike wsX1_strike) := goodIn_app (goodIn_of _ (by decide +kernel)) ggX0_strikeAll_X1_strike
theorem dX0_strikeAll_0 : decode cX0_strikeAll 0 = .ok (.iconst 0, 1) := by decide +kernel
theorem dX0_strikeAll_1 : decode cX0_strikeAll 1 = .ok (.istore_n 1, 1) := by decide +kernel
theorem dX0_strikeAll_2 : decode cX0_strikeAll 2 = .ok (.iload_n 1, 1) := by decide +kernel
theorem dX0_strikeAll_3 : decode cX0_strikeAll 3 = .ok (.bipush 7, 2) := by decide +kernel
theorem dX0_strikeAll_5 : decode cX0_strikeAll 5 = .ok (.if_icmp .ge 18, 3) := by decide +kernel
theorem dX0_strikeAll_8 : decode cX0_strikeAll 8 = .ok (.aload_n 0, 1) := by decide +kernel
theorem dX0_strikeAll_9 : decode cX0_strikeAll 9 = .ok (.getfield 20, 3) := by decide +kernel
theorem dX0_strikeAll_12 : decode cX0_strikeAll 12 = .ok (.iload_n 1, 1) := by decide +kernel
theorem dX0_strikeAll_13 : decode cX0_strikeAll 13 = .ok (.aaload, 1) := by decide +kernel
theorem dX0_strikeAll_14 : decode cX0_strikeAll 14 = .ok (.invokevirtual 79, 3) := by decide +kernel
theorem dX0_strikeAll_17 : decode cX0_strikeAll 17 = .ok (.iinc 1 1, 3) := by decide +kernel
theorem dX0_strikeAll_20 : decode cX0_strikeAll 20 = .ok (.goto (-18), 3) := by decide +kernel
theorem dX0_strikeAll_23 : decode cX0_strikeAll 23 = .ok (.return_, 1) := by decide +kernel
set_option maxRecDepth 20000 in
theorem ggX0_brokenPins_X1_isWhole : GoodIn wsX0_brokenPins wsX1_isWhole := goodIn_r _ [6, 7, 8, 16, 17] (by decide +kernel) (by decide +kernel)
set_option maxRecDepth 20000 in
theorem gX0_brokenPins_X1_isWhole : GoodIn wsX0_brokenPins (wsV RX0 75 RX1 yX1_isWhole wsX1_isWhole) := goodIn_app (goodIn_of _ (by decide +kernel)) ggX0_brokenPins_X1_isWhole
theorem dX0_brokenPins_0 : decode cX0_brokenPins 0 = .ok (.iconst 0, 1) := by decide +kernel
theorem dX0_brokenPins_1 : decode cX0_brokenPins 1 = .ok (.istore_n 1, 1) := by decide +kernel
theorem dX0_brokenPins_2 : decode cX0_brokenPins 2 = .ok (.iconst 0, 1) := by decide +kernel
theorem dX0_brokenPins_3 : decode cX0_brokenPins 3 = .ok (.istore_n 2, 1) := by decide +kernel
theorem dX0_brokenPins_4 : decode cX0_brokenPins 4 = .ok (.iload_n 2, 1) := by decide +kernel
theorem dX0_brokenPins_5 : decode cX0_brokenPins 5 = .ok (.bipush 7, 2) := by decide +kernel
theorem dX0_brokenPins_7 : decode cX0_brokenPins 7 = .ok (.if_icmp .ge 24, 3) := by decide +kernel
theorem dX0_brokenPins_10 : decode cX0_brokenPins 10 = .ok (.aload_n 0, 1) := by decide +kernel
theorem dX0_brokenPins_11 : decode cX0_brokenPins 11 = .ok (.getfield 20, 3) := by decide +kernel
theorem dX0_brokenPins_14 : decode cX0_brokenPins 14 = .ok (.iload_n 2, 1) := by decide +kernel
theorem dX0_brokenPins_15 : decode cX0_brokenPins 15 = .ok (.aaload, 1) := by decide +kernel
theorem dX0_brokenPins_16 : decode cX0_brokenPins 16 = .ok (.invokevirtual 75, 3) := by decide +kernel
theorem dX0_brokenPins_19 : decode cX0_brokenPins 19 = .ok (.ifCond .ne 6, 3) := by decide +kernel
theorem dX0_brokenPins_22 : decode cX0_brokenPins 22 = .ok (.iinc 1 1, 3) := by decide +kernel
theorem dX0_brokenPins_25 : decode cX0_brokenPins 25 = .ok (.iinc 2 1, 3) := by decide +kernel
theorem dX0_brokenPins_28 : decode cX0_brokenPins 28 = .ok (.goto (-24), 3) := by decide +kernel
theorem dX0_brokenPins_31 : decode cX0_brokenPins 31 = .ok (.iload_n 1, 1) := by decide +kernel
theorem dX0_brokenPins_32 : decode cX0_brokenPins 32 = .ok (.ireturn, 1) := by decide +kernel
theorem dX1_init_0 : decode cX1_init 0 = .ok (.aload_n 0, 1) := by decide +kernel
theorem dX1_init_1 : decode cX1_init 1 = .ok (.invokespecial 3, 3) := by decide +kernel
theorem dX1_init_4 : decode cX1_init 4 = .ok (.aload_n 0, 1) := by decide +kernel
theorem dX1_init_5 : decode cX1_init 5 = .ok (.sipush 200, 3) := by decide +kernel
theorem dX1_init_8 : decode cX1_init 8 = .ok (.putfield 9, 3) := by decide +kernel
theorem dX1_init_11 : decode cX1_init 11 = .ok (.return_, 1) := by decide +kernel
theorem dX1_isWhole_0 : decode cX1_isWhole 0 = .ok (.aload_n 0, 1) := by decide +kernel
theorem dX1_isWhole_1 : decode cX1_isWhole 1 = .ok (.getfield 15, 3) := by decide +kernel
theorem dX1_isWhole_4 : decode cX1_isWhole 4 = .ok (.aload_n 0, 1) := by decide +kernel
theorem dX1_isWhole_5 : decode cX1_isWhole 5 = .ok (.getfield 9, 3) := by decide +kernel
theorem dX1_isWhole_8 : decode cX1_isWhole 8 = .ok (.if_icmp .gt 7, 3) := by decide +kernel
theorem dX1_isWhole_11 : decode cX1_isWhole 11 = .ok (.iconst 1, 1) := by decide +kernel
theorem dX1_isWhole_12 : decode cX1_isWhole 12 = .ok (.goto 4, 3) := by decide +kernel
theorem dX1_isWhole_15 : decode cX1_isWhole 15 = .ok (.iconst 0, 1) := by decide +kernel
theorem dX1_isWhole_16 : decode cX1_isWhole 16 = .ok (.ireturn, 1) := by decide +kernel
set_option maxRecDepth 20000 in
theorem ggX1_strike_X1_isWhole : GoodIn wsX1_strike wsX1_isWhole := goodIn_r _ [6, 1, 7, 8, 9] (by decide +kernel) (by decide +kernel)
set_option maxRecDepth 20000 in
theorem gX1_strike_X1_isWhole : GoodIn wsX1_strike (wsV RX1 18 RX1 yX1_isWhole wsX1_isWhole) := goodIn_app (goodIn_of _ (by decide +kernel)) ggX1_strike_X1_isWhole
theorem dX1_strike_0 : decode cX1_strike 0 = .ok (.aload_n 0, 1) := by decide +kernel
theorem dX1_strike_1 : decode cX1_strike 1 = .ok (.invokevirtual 18, 3) := by decide +kernel
theorem dX1_strike_4 : decode cX1_strike 4 = .ok (.ifCond .eq 13, 3) := by decide +kernel
theorem dX1_strike_7 : decode cX1_strike 7 = .ok (.aload_n 0, 1) := by decide +kernel
theorem dX1_strike_8 : decode cX1_strike 8 = .ok (.dup, 1) := by decide +kernel
theorem dX1_strike_9 : decode cX1_strike 9 = .ok (.getfield 15, 3) := by decide +kernel
theorem dX1_strike_12 : decode cX1_strike 12 = .ok (.iconst 1, 1) := by decide +kernel
theorem dX1_strike_13 : decode cX1_strike 13 = .ok (.iadd, 1) := by decide +kernel
theorem dX1_strike_14 : decode cX1_strike 14 = .ok (.putfield 15, 3) := by decide +kernel
theorem dX1_strike_17 : decode cX1_strike 17 = .ok (.return_, 1) := by decide +kernel
theorem dX1_becomeLike_0 : decode cX1_becomeLike 0 = .ok (.aload_n 0, 1) := by decide +kernel
theorem dX1_becomeLike_1 : decode cX1_becomeLike 1 = .ok (.aload_n 1, 1) := by decide +kernel
theorem dX1_becomeLike_2 : decode cX1_becomeLike 2 = .ok (.getfield 9, 3) := by decide +kernel
theorem dX1_becomeLike_5 : decode cX1_becomeLike 5 = .ok (.putfield 9, 3) := by decide +kernel
theorem dX1_becomeLike_8 : decode cX1_becomeLike 8 = .ok (.aload_n 0, 1) := by decide +kernel
theorem dX1_becomeLike_9 : decode cX1_becomeLike 9 = .ok (.aload_n 1, 1) := by decide +kernel
theorem dX1_becomeLike_10 : decode cX1_becomeLike 10 = .ok (.getfield 15, 3) := by decide +kernel
theorem dX1_becomeLike_13 : decode cX1_becomeLike 13 = .ok (.putfield 15, 3) := by decide +kernel
theorem dX1_becomeLike_16 : decode cX1_becomeLike 16 = .ok (.return_, 1) := by decide +kernel
set_option maxRecDepth 20000 in
theorem ggX1_answer_X1_isWhole : GoodIn wsX1_answer wsX1_isWhole := goodIn_r _ [7, 2, 1, 8, 9] (by decide +kernel) (by decide +kernel)
set_option maxRecDepth 20000 in
theorem gX1_answer_X1_isWhole : GoodIn wsX1_answer (wsV RX1 18 RX1 yX1_isWhole wsX1_isWhole) := goodIn_app (goodIn_of _ (by decide +kernel)) ggX1_answer_X1_isWhole
theorem dX1_answer_0 : decode cX1_answer 0 = .ok (.iload_n 1, 1) := by decide +kernel
theorem dX1_answer_1 : decode cX1_answer 1 = .ok (.tableswitch 50 0 2 #[27, 32, 37], 27) := by decide +kernel
theorem dX1_answer_28 : decode cX1_answer 28 = .ok (.aload_n 0, 1) := by decide +kernel
theorem dX1_answer_29 : decode cX1_answer 29 = .ok (.getfield 9, 3) := by decide +kernel
theorem dX1_answer_32 : decode cX1_answer 32 = .ok (.ireturn, 1) := by decide +kernel
theorem dX1_answer_33 : decode cX1_answer 33 = .ok (.aload_n 0, 1) := by decide +kernel
theorem dX1_answer_34 : decode cX1_answer 34 = .ok (.getfield 15, 3) := by decide +kernel
theorem dX1_answer_37 : decode cX1_answer 37 = .ok (.ireturn, 1) := by decide +kernel
theorem dX1_answer_38 : decode cX1_answer 38 = .ok (.aload_n 0, 1) := by decide +kernel
theorem dX1_answer_39 : decode cX1_answer 39 = .ok (.invokevirtual 18, 3) := by decide +kernel
theorem dX1_answer_42 : decode cX1_answer 42 = .ok (.ifCond .eq 7, 3) := by decide +kernel
theorem dX1_answer_45 : decode cX1_answer 45 = .ok (.iconst 1, 1) := by decide +kernel
theorem dX1_answer_46 : decode cX1_answer 46 = .ok (.goto 4, 3) := by decide +kernel
theorem dX1_answer_49 : decode cX1_answer 49 = .ok (.iconst 0, 1) := by decide +kernel
theorem dX1_answer_50 : decode cX1_answer 50 = .ok (.ireturn, 1) := by decide +kernel
theorem dX1_answer_51 : decode cX1_answer 51 = .ok (.aload_n 0, 1) := by decide +kernel
theorem dX1_answer_52 : decode cX1_answer 52 = .ok (.invokevirtual 18, 3) := by decide +kernel
theorem dX1_answer_55 : decode cX1_answer 55 = .ok (.ifCond .eq 17, 3) := by decide +kernel
theorem dX1_answer_58 : decode cX1_answer 58 = .ok (.aload_n 0, 1) := by decide +kernel
theorem dX1_answer_59 : decode cX1_answer 59 = .ok (.getfield 9, 3) := by decide +kernel
theorem dX1_answer_62 : decode cX1_answer 62 = .ok (.aload_n 0, 1) := by decide +kernel
theorem dX1_answer_63 : decode cX1_answer 63 = .ok (.getfield 15, 3) := by decide +kernel
theorem dX1_answer_66 : decode cX1_answer 66 = .ok (.isub, 1) := by decide +kernel
theorem dX1_answer_67 : decode cX1_answer 67 = .ok (.iconst 1, 1) := by decide +kernel
theorem dX1_answer_68 : decode cX1_answer 68 = .ok (.iadd, 1) := by decide +kernel
theorem dX1_answer_69 : decode cX1_answer 69 = .ok (.goto 4, 3) := by decide +kernel
theorem dX1_answer_72 : decode cX1_answer 72 = .ok (.iconst 0, 1) := by decide +kernel
theorem dX1_answer_73 : decode cX1_answer 73 = .ok (.ireturn, 1) := by decide +kernel
theorem dX2_init_0 : decode cX2_init 0 = .ok (.aload_n 0, 1) := by decide +kernel
theorem dX2_init_1 : decode cX2_init 1 = .ok (.invokespecial 3, 3) := by decide +kernel
theorem dX2_init_4 : decode cX2_init 4 = .ok (.aload_n 0, 1) := by decide +kernel
theorem dX2_init_5 : decode cX2_init 5 = .ok (.bipush 30, 2) := by decide +kernel
theorem dX2_init_7 : decode cX2_init 7 = .ok (.newarray .int, 2) := by decide +kernel
theorem dX2_init_9 : decode cX2_init 9 = .ok (.putfield 9, 3) := by decide +kernel
theorem dX2_init_12 : decode cX2_init 12 = .ok (.aload_n 0, 1) := by decide +kernel
theorem dX2_init_13 : decode cX2_init 13 = .ok (.bipush 30, 2) := by decide +kernel
theorem dX2_init_15 : decode cX2_init 15 = .ok (.newarray .boolean, 2) := by decide +kernel
theorem dX2_init_17 : decode cX2_init 17 = .ok (.putfield 15, 3) := by decide +kernel
theorem dX2_init_20 : decode cX2_init 20 = .ok (.return_, 1) := by decide +kernel
set_option maxRecDepth 20000 in
theorem ggX2_answer_X2_left : GoodIn wsX2_answer wsX2_left := goodIn_r _ [5, 6, 51, 52] (by decide +kernel) (by decide +kernel)
set_option maxRecDepth 20000 in
theorem gX2_answer_X2_left : GoodIn wsX2_answer (wsV RX2 19 RX2 yX2_left wsX2_left) := goodIn_app (goodIn_of _ (by decide +kernel)) ggX2_answer_X2_left
set_option maxRecDepth 20000 in
theorem ggX2_answer_X2_leftWith : GoodIn wsX2_answer wsX2_leftWith := goodIn_r _ [10, 11, 12, 13, 4, 14, 6, 15, 51, 52] (by decide +kernel) (by decide +kernel)
set_option maxRecDepth 20000 in
theorem gX2_answer_X2_leftWith : GoodIn wsX2_answer (wsV RX2 23 RX2 yX2_leftWith wsX2_leftWith) := goodIn_app (goodIn_of _ (by decide +kernel)) ggX2_answer_X2_leftWith
set_option maxRecDepth 20000 in
theorem ggX2_answer_X2_worth : GoodIn wsX2_answer wsX2_worth := goodIn_r _ [19, 20, 21, 22, 4, 23, 15, 6, 51, 52] (by decide +kernel) (by decide +kernel)
set_option maxRecDepth 20000 in
theorem gX2_answer_X2_worth : GoodIn wsX2_answer (wsV RX2 27 RX2 yX2_worth wsX2_worth) := goodIn_app (goodIn_of _ (by decide +kernel)) ggX2_answer_X2_worth
set_option maxRecDepth 20000 in
theorem ggX2_answer_X2_invertedPairs : GoodIn wsX2_answer wsX2_invertedPairs := goodIn_r _ [27, 28, 29, 30, 4, 31, 6, 15, 51, 52] (by decide +kernel) (by decide +kernel)
set_option maxRecDepth 20000 in
theorem gX2_answer_X2_invertedPairs : GoodIn wsX2_answer (wsV RX2 30 RX2 yX2_invertedPairs wsX2_invertedPairs) := goodIn_app (goodIn_of _ (by decide +kernel)) ggX2_answer_X2_invertedPairs
set_option maxRecDepth 20000 in
theorem ggX2_answer_X2_rowsOff : GoodIn wsX2_answer wsX2_rowsOff := goodIn_r _ [35, 15, 51, 52] (by decide +kernel) (by decide +kernel)
set_option maxRecDepth 20000 in
theorem gX2_answer_X2_rowsOff : GoodIn wsX2_answer (wsV RX2 33 RX2 yX2_rowsOff wsX2_rowsOff) := goodIn_app (goodIn_of _ (by decide +kernel)) ggX2_answer_X2_rowsOff
set_option maxRecDepth 20000 in
theorem ggX2_answer_X2_greatestBlock : GoodIn wsX2_answer wsX2_greatestBlock := goodIn_r _ [39, 40, 41, 42, 43, 44, 45, 46, 4, 47, 11, 12, 13, 14, 6, 15, 48, 49, 50, 51, 52] (by decide +kernel) (by decide +kernel)
set_option maxRecDepth 20000 in
theorem gX2_answer_X2_greatestBlock : GoodIn wsX2_answer (wsV RX2 36 RX2 yX2_greatestBlock wsX2_greatestBlock) := goodIn_app (goodIn_of _ (by decide +kernel)) ggX2_answer_X2_greatestBlock
theorem dX2_answer_0 : decode cX2_answer 0 = .ok (.iload_n 1, 1) := by decide +kernel
theorem dX2_answer_1 : decode cX2_answer 1 = .ok (.tableswitch 61 0 4 #[35, 40, 46, 51, 56], 35) := by decide +kernel
theorem dX2_answer_36 : decode cX2_answer 36 = .ok (.aload_n 0, 1) := by decide +kernel
theorem dX2_answer_37 : decode cX2_answer 37 = .ok (.invokevirtual 19, 3) := by decide +kernel
theorem dX2_answer_40 : decode cX2_answer 40 = .ok (.ireturn, 1) := by decide +kernel
theorem dX2_answer_41 : decode cX2_answer 41 = .ok (.aload_n 0, 1) := by decide +kernel
theorem dX2_answer_42 : decode cX2_answer 42 = .ok (.iconst 0, 1) := by decide +kernel
theorem dX2_answer_43 : decode cX2_answer 43 = .ok (.invokevirtual 23, 3) := by decide +kernel
theorem dX2_answer_46 : decode cX2_answer 46 = .ok (.ireturn, 1) := by decide +kernel
theorem dX2_answer_47 : decode cX2_answer 47 = .ok (.aload_n 0, 1) := by decide +kernel
theorem dX2_answer_48 : decode cX2_answer 48 = .ok (.invokevirtual 27, 3) := by decide +kernel
theorem dX2_answer_51 : decode cX2_answer 51 = .ok (.ireturn, 1) := by decide +kernel
theorem dX2_answer_52 : decode cX2_answer 52 = .ok (.aload_n 0, 1) := by decide +kernel
theorem dX2_answer_53 : decode cX2_answer 53 = .ok (.invokevirtual 30, 3) := by decide +kernel
theorem dX2_answer_56 : decode cX2_answer 56 = .ok (.ireturn, 1) := by decide +kernel
theorem dX2_answer_57 : decode cX2_answer 57 = .ok (.aload_n 0, 1) := by decide +kernel
theorem dX2_answer_58 : decode cX2_answer 58 = .ok (.invokevirtual 33, 3) := by decide +kernel
theorem dX2_answer_61 : decode cX2_answer 61 = .ok (.ireturn, 1) := by decide +kernel
theorem dX2_answer_62 : decode cX2_answer 62 = .ok (.aload_n 0, 1) := by decide +kernel
theorem dX2_answer_63 : decode cX2_answer 63 = .ok (.invokevirtual 36, 3) := by decide +kernel
theorem dX2_answer_66 : decode cX2_answer 66 = .ok (.ireturn, 1) := by decide +kernel
theorem dX2_worthOf_0 : decode cX2_worthOf 0 = .ok (.aload_n 0, 1) := by decide +kernel
theorem dX2_worthOf_1 : decode cX2_worthOf 1 = .ok (.getfield 9, 3) := by decide +kernel
theorem dX2_worthOf_4 : decode cX2_worthOf 4 = .ok (.iload_n 1, 1) := by decide +kernel
theorem dX2_worthOf_5 : decode cX2_worthOf 5 = .ok (.iaload, 1) := by decide +kernel
theorem dX2_worthOf_6 : decode cX2_worthOf 6 = .ok (.istore_n 2, 1) := by decide +kernel
theorem dX2_worthOf_7 : decode cX2_worthOf 7 = .ok (.aload_n 0, 1) := by decide +kernel
theorem dX2_worthOf_8 : decode cX2_worthOf 8 = .ok (.getfield 15, 3) := by decide +kernel
theorem dX2_worthOf_11 : decode cX2_worthOf 11 = .ok (.iload_n 1, 1) := by decide +kernel
theorem dX2_worthOf_12 : decode cX2_worthOf 12 = .ok (.baload, 1) := by decide +kernel
theorem dX2_worthOf_13 : decode cX2_worthOf 13 = .ok (.ifCond .ne 10, 3) := by decide +kernel
theorem dX2_worthOf_16 : decode cX2_worthOf 16 = .ok (.iload_n 2, 1) := by decide +kernel
theorem dX2_worthOf_17 : decode cX2_worthOf 17 = .ok (.bipush 7, 2) := by decide +kernel
theorem dX2_worthOf_19 : decode cX2_worthOf 19 = .ok (.iand, 1) := by decide +kernel
theorem dX2_worthOf_20 : decode cX2_worthOf 20 = .ok (.ifCond .eq 5, 3) := by decide +kernel
theorem dX2_worthOf_23 : decode cX2_worthOf 23 = .ok (.iconst 0, 1) := by decide +kernel
theorem dX2_worthOf_24 : decode cX2_worthOf 24 = .ok (.ireturn, 1) := by decide +kernel
theorem dX2_worthOf_25 : decode cX2_worthOf 25 = .ok (.iconst 1, 1) := by decide +kernel
theorem dX2_worthOf_26 : decode cX2_worthOf 26 = .ok (.istore_n 3, 1) := by decide +kernel
theorem dX2_worthOf_27 : decode cX2_worthOf 27 = .ok (.iload_n 2, 1) := by decide +kernel
theorem dX2_worthOf_28 : decode cX2_worthOf 28 = .ok (.bipush 8, 2) := by decide +kernel
theorem dX2_worthOf_30 : decode cX2_worthOf 30 = .ok (.iand, 1) := by decide +kernel
theorem dX2_worthOf_31 : decode cX2_worthOf 31 = .ok (.ifCond .eq 6, 3) := by decide +kernel
theorem dX2_worthOf_34 : decode cX2_worthOf 34 = .ok (.iinc 3 20, 3) := by decide +kernel
theorem dX2_worthOf_37 : decode cX2_worthOf 37 = .ok (.iload_n 2, 1) := by decide +kernel
theorem dX2_worthOf_38 : decode cX2_worthOf 38 = .ok (.bipush 16, 2) := by decide +kernel
theorem dX2_worthOf_40 : decode cX2_worthOf 40 = .ok (.iand, 1) := by decide +kernel
theorem dX2_worthOf_41 : decode cX2_worthOf 41 = .ok (.ifCond .eq 6, 3) := by decide +kernel
theorem dX2_worthOf_44 : decode cX2_worthOf 44 = .ok (.iinc 3 4, 3) := by decide +kernel
theorem dX2_worthOf_47 : decode cX2_worthOf 47 = .ok (.iload_n 3, 1) := by decide +kernel
theorem dX2_worthOf_48 : decode cX2_worthOf 48 = .ok (.ireturn, 1) := by decide +kernel
set_option maxRecDepth 20000 in
theorem ggX2_worth_X2_worthOf : GoodIn wsX2_worth wsX2_worthOf := goodIn_r _ [5, 6, 7, 8, 9] (by decide +kernel) (by decide +kernel)
set_option maxRecDepth 20000 in
theorem gX2_worth_X2_worthOf : GoodIn wsX2_worth (wsV RX2 39 RX2 yX2_worthOf wsX2_worthOf) := goodIn_app (goodIn_of _ (by decide +kernel)) ggX2_worth_X2_worthOf
theorem dX2_worth_0 : decode cX2_worth 0 = .ok (.iconst 0, 1) := by decide +kernel
theorem dX2_worth_1 : decode cX2_worth 1 = .ok (.istore_n 1, 1) := by decide +kernel
theorem dX2_worth_2 : decode cX2_worth 2 = .ok (.iconst 0, 1) := by decide +kernel
theorem dX2_worth_3 : decode cX2_worth 3 = .ok (.istore_n 2, 1) := by decide +kernel
theorem dX2_worth_4 : decode cX2_worth 4 = .ok (.iload_n 2, 1) := by decide +kernel
theorem dX2_worth_5 : decode cX2_worth 5 = .ok (.bipush 30, 2) := by decide +kernel
theorem dX2_worth_7 : decode cX2_worth 7 = .ok (.if_icmp .ge 17, 3) := by decide +kernel
theorem dX2_worth_10 : decode cX2_worth 10 = .ok (.iload_n 1, 1) := by decide +kernel
theorem dX2_worth_11 : decode cX2_worth 11 = .ok (.aload_n 0, 1) := by decide +kernel
theorem dX2_worth_12 : decode cX2_worth 12 = .ok (.iload_n 2, 1) := by decide +kernel
theorem dX2_worth_13 : decode cX2_worth 13 = .ok (.invokevirtual 39, 3) := by decide +kernel
theorem dX2_worth_16 : decode cX2_worth 16 = .ok (.iadd, 1) := by decide +kernel
theorem dX2_worth_17 : decode cX2_worth 17 = .ok (.istore_n 1, 1) := by decide +kernel
theorem dX2_worth_18 : decode cX2_worth 18 = .ok (.iinc 2 1, 3) := by decide +kernel
theorem dX2_worth_21 : decode cX2_worth 21 = .ok (.goto (-17), 3) := by decide +kernel
theorem dX2_worth_24 : decode cX2_worth 24 = .ok (.iload_n 1, 1) := by decide +kernel
theorem dX2_worth_25 : decode cX2_worth 25 = .ok (.ireturn, 1) := by decide +kernel
theorem dX2_left_0 : decode cX2_left 0 = .ok (.iconst 0, 1) := by decide +kernel
theorem dX2_left_1 : decode cX2_left 1 = .ok (.istore_n 1, 1) := by decide +kernel
theorem dX2_left_2 : decode cX2_left 2 = .ok (.iconst 0, 1) := by decide +kernel
theorem dX2_left_3 : decode cX2_left 3 = .ok (.istore_n 2, 1) := by decide +kernel
theorem dX2_left_4 : decode cX2_left 4 = .ok (.iload_n 2, 1) := by decide +kernel
theorem dX2_left_5 : decode cX2_left 5 = .ok (.bipush 30, 2) := by decide +kernel
theorem dX2_left_7 : decode cX2_left 7 = .ok (.if_icmp .ge 21, 3) := by decide +kernel
theorem dX2_left_10 : decode cX2_left 10 = .ok (.aload_n 0, 1) := by decide +kernel
theorem dX2_left_11 : decode cX2_left 11 = .ok (.getfield 15, 3) := by decide +kernel
theorem dX2_left_14 : decode cX2_left 14 = .ok (.iload_n 2, 1) := by decide +kernel
theorem dX2_left_15 : decode cX2_left 15 = .ok (.baload, 1) := by decide +kernel
theorem dX2_left_16 : decode cX2_left 16 = .ok (.ifCond .ne 6, 3) := by decide +kernel
theorem dX2_left_19 : decode cX2_left 19 = .ok (.iinc 1 1, 3) := by decide +kernel
theorem dX2_left_22 : decode cX2_left 22 = .ok (.iinc 2 1, 3) := by decide +kernel
theorem dX2_left_25 : decode cX2_left 25 = .ok (.goto (-21), 3) := by decide +kernel
theorem dX2_left_28 : decode cX2_left 28 = .ok (.iload_n 1, 1) := by decide +kernel
theorem dX2_left_29 : decode cX2_left 29 = .ok (.ireturn, 1) := by decide +kernel
theorem dX2_isLeftWith_0 : decode cX2_isLeftWith 0 = .ok (.aload_n 0, 1) := by decide +kernel
theorem dX2_isLeftWith_1 : decode cX2_isLeftWith 1 = .ok (.getfield 15, 3) := by decide +kernel
theorem dX2_isLeftWith_4 : decode cX2_isLeftWith 4 = .ok (.iload_n 1, 1) := by decide +kernel
theorem dX2_isLeftWith_5 : decode cX2_isLeftWith 5 = .ok (.baload, 1) := by decide +kernel
theorem dX2_isLeftWith_6 : decode cX2_isLeftWith 6 = .ok (.ifCond .ne 17, 3) := by decide +kernel
theorem dX2_isLeftWith_9 : decode cX2_isLeftWith 9 = .ok (.aload_n 0, 1) := by decide +kernel
theorem dX2_isLeftWith_10 : decode cX2_isLeftWith 10 = .ok (.getfield 9, 3) := by decide +kernel
theorem dX2_isLeftWith_13 : decode cX2_isLeftWith 13 = .ok (.iload_n 1, 1) := by decide +kernel
theorem dX2_isLeftWith_14 : decode cX2_isLeftWith 14 = .ok (.iaload, 1) := by decide +kernel
theorem dX2_isLeftWith_15 : decode cX2_isLeftWith 15 = .ok (.iload_n 2, 1) := by decide +kernel
theorem dX2_isLeftWith_16 : decode cX2_isLeftWith 16 = .ok (.if_icmp .ne 7, 3) := by decide +kernel
theorem dX2_isLeftWith_19 : decode cX2_isLeftWith 19 = .ok (.iconst 1, 1) := by decide +kernel
theorem dX2_isLeftWith_20 : decode cX2_isLeftWith 20 = .ok (.goto 4, 3) := by decide +kernel
theorem dX2_isLeftWith_23 : decode cX2_isLeftWith 23 = .ok (.iconst 0, 1) := by decide +kernel
theorem dX2_isLeftWith_24 : decode cX2_isLeftWith 24 = .ok (.ireturn, 1) := by decide +kernel
set_option maxRecDepth 20000 in
theorem ggX2_leftWith_X2_isLeftWith : GoodIn wsX2_leftWith wsX2_isLeftWith := goodIn_r _ [5, 6, 7, 8, 9] (by decide +kernel) (by decide +kernel)
set_option maxRecDepth 20000 in
theorem gX2_leftWith_X2_isLeftWith : GoodIn wsX2_leftWith (wsV RX2 42 RX2 yX2_isLeftWith wsX2_isLeftWith) := goodIn_app (goodIn_of _ (by decide +kernel)) ggX2_leftWith_X2_isLeftWith
theorem dX2_leftWith_0 : decode cX2_leftWith 0 = .ok (.iconst 0, 1) := by decide +kernel
theorem dX2_leftWith_1 : decode cX2_leftWith 1 = .ok (.istore_n 2, 1) := by decide +kernel
theorem dX2_leftWith_2 : decode cX2_leftWith 2 = .ok (.iconst 0, 1) := by decide +kernel
theorem dX2_leftWith_3 : decode cX2_leftWith 3 = .ok (.istore_n 3, 1) := by decide +kernel
theorem dX2_leftWith_4 : decode cX2_leftWith 4 = .ok (.iload_n 3, 1) := by decide +kernel
theorem dX2_leftWith_5 : decode cX2_leftWith 5 = .ok (.bipush 30, 2) := by decide +kernel
theorem dX2_leftWith_7 : decode cX2_leftWith 7 = .ok (.if_icmp .ge 21, 3) := by decide +kernel
theorem dX2_leftWith_10 : decode cX2_leftWith 10 = .ok (.aload_n 0, 1) := by decide +kernel
theorem dX2_leftWith_11 : decode cX2_leftWith 11 = .ok (.iload_n 3, 1) := by decide +kernel
theorem dX2_leftWith_12 : decode cX2_leftWith 12 = .ok (.iload_n 1, 1) := by decide +kernel
theorem dX2_leftWith_13 : decode cX2_leftWith 13 = .ok (.invokevirtual 42, 3) := by decide +kernel
theorem dX2_leftWith_16 : decode cX2_leftWith 16 = .ok (.ifCond .eq 6, 3) := by decide +kernel
theorem dX2_leftWith_19 : decode cX2_leftWith 19 = .ok (.iinc 2 1, 3) := by decide +kernel
theorem dX2_leftWith_22 : decode cX2_leftWith 22 = .ok (.iinc 3 1, 3) := by decide +kernel
theorem dX2_leftWith_25 : decode cX2_leftWith 25 = .ok (.goto (-21), 3) := by decide +kernel
theorem dX2_leftWith_28 : decode cX2_leftWith 28 = .ok (.iload_n 2, 1) := by decide +kernel
theorem dX2_leftWith_29 : decode cX2_leftWith 29 = .ok (.ireturn, 1) := by decide +kernel
set_option maxRecDepth 20000 in
theorem ggX2_invertedPairs_X2_isInvertedPair : GoodIn wsX2_invertedPairs wsX2_isInvertedPair := goodIn_r _ [5, 6, 7, 8, 9] (by decide +kernel) (by decide +kernel)
set_option maxRecDepth 20000 in
theorem gX2_invertedPairs_X2_isInvertedPair : GoodIn wsX2_invertedPairs (wsV RX2 46 RX2 yX2_isInvertedPair wsX2_isInvertedPair) := goodIn_app (goodIn_of _ (by decide +kernel)) ggX2_invertedPairs_X2_isInvertedPair
theorem dX2_invertedPairs_0 : decode cX2_invertedPairs 0 = .ok (.iconst 0, 1) := by decide +kernel
theorem dX2_invertedPairs_1 : decode cX2_invertedPairs 1 = .ok (.istore_n 1, 1) := by decide +kernel
theorem dX2_invertedPairs_2 : decode cX2_invertedPairs 2 = .ok (.iconst 0, 1) := by decide +kernel
theorem dX2_invertedPairs_3 : decode cX2_invertedPairs 3 = .ok (.istore_n 2, 1) := by decide +kernel
theorem dX2_invertedPairs_4 : decode cX2_invertedPairs 4 = .ok (.iload_n 2, 1) := by decide +kernel
theorem dX2_invertedPairs_5 : decode cX2_invertedPairs 5 = .ok (.iconst 5, 1) := by decide +kernel
theorem dX2_invertedPairs_6 : decode cX2_invertedPairs 6 = .ok (.if_icmp .ge 38, 3) := by decide +kernel
theorem dX2_invertedPairs_9 : decode cX2_invertedPairs 9 = .ok (.iconst 0, 1) := by decide +kernel
theorem dX2_invertedPairs_10 : decode cX2_invertedPairs 10 = .ok (.istore_n 3, 1) := by decide +kernel
theorem dX2_invertedPairs_11 : decode cX2_invertedPairs 11 = .ok (.iload_n 3, 1) := by decide +kernel
theorem dX2_invertedPairs_12 : decode cX2_invertedPairs 12 = .ok (.iconst 5, 1) := by decide +kernel
theorem dX2_invertedPairs_13 : decode cX2_invertedPairs 13 = .ok (.if_icmp .ge 25, 3) := by decide +kernel
theorem dX2_invertedPairs_16 : decode cX2_invertedPairs 16 = .ok (.aload_n 0, 1) := by decide +kernel
theorem dX2_invertedPairs_17 : decode cX2_invertedPairs 17 = .ok (.bipush 6, 2) := by decide +kernel
theorem dX2_invertedPairs_19 : decode cX2_invertedPairs 19 = .ok (.iload_n 2, 1) := by decide +kernel
theorem dX2_invertedPairs_20 : decode cX2_invertedPairs 20 = .ok (.imul, 1) := by decide +kernel
theorem dX2_invertedPairs_21 : decode cX2_invertedPairs 21 = .ok (.iload_n 3, 1) := by decide +kernel
theorem dX2_invertedPairs_22 : decode cX2_invertedPairs 22 = .ok (.iadd, 1) := by decide +kernel
theorem dX2_invertedPairs_23 : decode cX2_invertedPairs 23 = .ok (.invokevirtual 46, 3) := by decide +kernel
theorem dX2_invertedPairs_26 : decode cX2_invertedPairs 26 = .ok (.ifCond .eq 6, 3) := by decide +kernel
theorem dX2_invertedPairs_29 : decode cX2_invertedPairs 29 = .ok (.iinc 1 1, 3) := by decide +kernel
theorem dX2_invertedPairs_32 : decode cX2_invertedPairs 32 = .ok (.iinc 3 1, 3) := by decide +kernel
theorem dX2_invertedPairs_35 : decode cX2_invertedPairs 35 = .ok (.goto (-24), 3) := by decide +kernel
theorem dX2_invertedPairs_38 : decode cX2_invertedPairs 38 = .ok (.iinc 2 1, 3) := by decide +kernel
theorem dX2_invertedPairs_41 : decode cX2_invertedPairs 41 = .ok (.goto (-37), 3) := by decide +kernel
theorem dX2_invertedPairs_44 : decode cX2_invertedPairs 44 = .ok (.iload_n 1, 1) := by decide +kernel
theorem dX2_invertedPairs_45 : decode cX2_invertedPairs 45 = .ok (.ireturn, 1) := by decide +kernel
theorem dX2_isInvertedPair_0 : decode cX2_isInvertedPair 0 = .ok (.iload_n 1, 1) := by decide +kernel
theorem dX2_isInvertedPair_1 : decode cX2_isInvertedPair 1 = .ok (.iconst 1, 1) := by decide +kernel
theorem dX2_isInvertedPair_2 : decode cX2_isInvertedPair 2 = .ok (.iadd, 1) := by decide +kernel
theorem dX2_isInvertedPair_3 : decode cX2_isInvertedPair 3 = .ok (.istore_n 2, 1) := by decide +kernel
theorem dX2_isInvertedPair_4 : decode cX2_isInvertedPair 4 = .ok (.aload_n 0, 1) := by decide +kernel
theorem dX2_isInvertedPair_5 : decode cX2_isInvertedPair 5 = .ok (.getfield 15, 3) := by decide +kernel
theorem dX2_isInvertedPair_8 : decode cX2_isInvertedPair 8 = .ok (.iload_n 1, 1) := by decide +kernel
theorem dX2_isInvertedPair_9 : decode cX2_isInvertedPair 9 = .ok (.baload, 1) := by decide +kernel
theorem dX2_isInvertedPair_10 : decode cX2_isInvertedPair 10 = .ok (.ifCond .ne 35, 3) := by decide +kernel
theorem dX2_isInvertedPair_13 : decode cX2_isInvertedPair 13 = .ok (.aload_n 0, 1) := by decide +kernel
theorem dX2_isInvertedPair_14 : decode cX2_isInvertedPair 14 = .ok (.getfield 15, 3) := by decide +kernel
theorem dX2_isInvertedPair_17 : decode cX2_isInvertedPair 17 = .ok (.iload_n 2, 1) := by decide +kernel
theorem dX2_isInvertedPair_18 : decode cX2_isInvertedPair 18 = .ok (.baload, 1) := by decide +kernel
theorem dX2_isInvertedPair_19 : decode cX2_isInvertedPair 19 = .ok (.ifCond .ne 26, 3) := by decide +kernel
theorem dX2_isInvertedPair_22 : decode cX2_isInvertedPair 22 = .ok (.aload_n 0, 1) := by decide +kernel
theorem dX2_isInvertedPair_23 : decode cX2_isInvertedPair 23 = .ok (.getfield 9, 3) := by decide +kernel
theorem dX2_isInvertedPair_26 : decode cX2_isInvertedPair 26 = .ok (.iload_n 1, 1) := by decide +kernel
theorem dX2_isInvertedPair_27 : decode cX2_isInvertedPair 27 = .ok (.iaload, 1) := by decide +kernel
theorem dX2_isInvertedPair_28 : decode cX2_isInvertedPair 28 = .ok (.aload_n 0, 1) := by decide +kernel
theorem dX2_isInvertedPair_29 : decode cX2_isInvertedPair 29 = .ok (.getfield 9, 3) := by decide +kernel
theorem dX2_isInvertedPair_32 : decode cX2_isInvertedPair 32 = .ok (.iload_n 2, 1) := by decide +kernel
theorem dX2_isInvertedPair_33 : decode cX2_isInvertedPair 33 = .ok (.iaload, 1) := by decide +kernel
theorem dX2_isInvertedPair_34 : decode cX2_isInvertedPair 34 = .ok (.ixor, 1) := by decide +kernel
theorem dX2_isInvertedPair_35 : decode cX2_isInvertedPair 35 = .ok (.bipush 8, 2) := by decide +kernel
theorem dX2_isInvertedPair_37 : decode cX2_isInvertedPair 37 = .ok (.iand, 1) := by decide +kernel
theorem dX2_isInvertedPair_38 : decode cX2_isInvertedPair 38 = .ok (.ifCond .eq 7, 3) := by decide +kernel
theorem dX2_isInvertedPair_41 : decode cX2_isInvertedPair 41 = .ok (.iconst 1, 1) := by decide +kernel
theorem dX2_isInvertedPair_42 : decode cX2_isInvertedPair 42 = .ok (.goto 4, 3) := by decide +kernel
theorem dX2_isInvertedPair_45 : decode cX2_isInvertedPair 45 = .ok (.iconst 0, 1) := by decide +kernel
theorem dX2_isInvertedPair_46 : decode cX2_isInvertedPair 46 = .ok (.ireturn, 1) := by decide +kernel
theorem dX2_rowsOff_0 : decode cX2_rowsOff 0 = .ok (.iconst 0, 1) := by decide +kernel
theorem dX2_rowsOff_1 : decode cX2_rowsOff 1 = .ok (.istore_n 1, 1) := by decide +kernel
theorem dX2_rowsOff_2 : decode cX2_rowsOff 2 = .ok (.iconst 0, 1) := by decide +kernel
theorem dX2_rowsOff_3 : decode cX2_rowsOff 3 = .ok (.istore_n 2, 1) := by decide +kernel
theorem dX2_rowsOff_4 : decode cX2_rowsOff 4 = .ok (.iload_n 2, 1) := by decide +kernel
theorem dX2_rowsOff_5 : decode cX2_rowsOff 5 = .ok (.iconst 5, 1) := by decide +kernel
theorem dX2_rowsOff_6 : decode cX2_rowsOff 6 = .ok (.if_icmp .ge 26, 3) := by decide +kernel
theorem dX2_rowsOff_9 : decode cX2_rowsOff 9 = .ok (.aload_n 0, 1) := by decide +kernel
theorem dX2_rowsOff_10 : decode cX2_rowsOff 10 = .ok (.getfield 9, 3) := by decide +kernel
theorem dX2_rowsOff_13 : decode cX2_rowsOff 13 = .ok (.bipush 6, 2) := by decide +kernel
theorem dX2_rowsOff_15 : decode cX2_rowsOff 15 = .ok (.iload_n 2, 1) := by decide +kernel
theorem dX2_rowsOff_16 : decode cX2_rowsOff 16 = .ok (.imul, 1) := by decide +kernel
theorem dX2_rowsOff_17 : decode cX2_rowsOff 17 = .ok (.iaload, 1) := by decide +kernel
theorem dX2_rowsOff_18 : decode cX2_rowsOff 18 = .ok (.iconst 1, 1) := by decide +kernel
theorem dX2_rowsOff_19 : decode cX2_rowsOff 19 = .ok (.iand, 1) := by decide +kernel
theorem dX2_rowsOff_20 : decode cX2_rowsOff 20 = .ok (.ifCond .eq 6, 3) := by decide +kernel
theorem dX2_rowsOff_23 : decode cX2_rowsOff 23 = .ok (.iinc 1 1, 3) := by decide +kernel
theorem dX2_rowsOff_26 : decode cX2_rowsOff 26 = .ok (.iinc 2 1, 3) := by decide +kernel
theorem dX2_rowsOff_29 : decode cX2_rowsOff 29 = .ok (.goto (-25), 3) := by decide +kernel
theorem dX2_rowsOff_32 : decode cX2_rowsOff 32 = .ok (.iload_n 1, 1) := by decide +kernel
theorem dX2_rowsOff_33 : decode cX2_rowsOff 33 = .ok (.ireturn, 1) := by decide +kernel
set_option maxRecDepth 20000 in
theorem ggX2_greatestBlock_X2_goodColumns : GoodIn wsX2_greatestBlock wsX2_goodColumns := goodIn_r _ [9, 10, 11, 12, 8, 13, 14, 15, 19, 20] (by decide +kernel) (by decide +kernel)
set_option maxRecDepth 20000 in
theorem gX2_greatestBlock_X2_goodColumns : GoodIn wsX2_greatestBlock (wsV RX2 50 RX2 yX2_goodColumns wsX2_goodColumns) := goodIn_app (goodIn_of _ (by decide +kernel)) ggX2_greatestBlock_X2_goodColumns
set_option maxRecDepth 20000 in
theorem ggX2_greatestBlock_X2_longestRun : GoodIn wsX2_greatestBlock wsX2_longestRun := goodIn_r _ [18, 1, 2, 3, 4] (by decide +kernel) (by decide +kernel)
set_option maxRecDepth 20000 in
theorem gX2_greatestBlock_X2_longestRun : GoodIn wsX2_greatestBlock (va_wsS RX2 53 yX2_longestRun wsX2_longestRun) := goodIn_app (goodIn_of _ (by decide +kernel)) ggX2_greatestBlock_X2_longestRun
theorem dX2_greatestBlock_0 : decode cX2_greatestBlock 0 = .ok (.iconst 0, 1) := by decide +kernel
theorem dX2_greatestBlock_1 : decode cX2_greatestBlock 1 = .ok (.istore_n 1, 1) := by decide +kernel
theorem dX2_greatestBlock_2 : decode cX2_greatestBlock 2 = .ok (.iconst 0, 1) := by decide +kernel
