set_option maxRecDepth 20000 in
theorem gX4_countAnswer_X4_invertedPlaces : GoodIn wsX4_countAnswer (wsV RX4 167 RX4 yX4_invertedPlaces wsX4_invertedPlaces) := goodIn_app (goodIn_of _ (by decide +kernel)) ggX4_countAnswer_X4_invertedPlaces
set_option maxRecDepth 20000 in
theorem ggX4_countAnswer_X4_worthOfSheets : GoodIn wsX4_countAnswer wsX4_worthOfSheets := goodIn_r _ [25, 1, 26, 27, 28, 29, 30, 31, 32, 33, 34, 35, 36, 37, 38, 39, 40, 41, 42, 52, 53] (by decide +kernel) (by decide +kernel)
set_option maxRecDepth 20000 in
theorem gX4_countAnswer_X4_worthOfSheets : GoodIn wsX4_countAnswer (wsV RX4 170 RX4 yX4_worthOfSheets wsX4_worthOfSheets) := goodIn_app (goodIn_of _ (by decide +kernel)) ggX4_countAnswer_X4_worthOfSheets
theorem dX4_countAnswer_0 : decode cX4_countAnswer 0 = .ok (.iload_n 1, 1) := by decide +kernel
theorem dX4_countAnswer_1 : decode cX4_countAnswer 1 = .ok (.tableswitch 117 0 8 #[51, 56, 64, 72, 80, 88, 96, 104, 112], 51) := by decide +kernel
theorem dX4_countAnswer_52 : decode cX4_countAnswer 52 = .ok (.aload_n 0, 1) := by decide +kernel
theorem dX4_countAnswer_53 : decode cX4_countAnswer 53 = .ok (.getfield 88, 3) := by decide +kernel
theorem dX4_countAnswer_56 : decode cX4_countAnswer 56 = .ok (.ireturn, 1) := by decide +kernel
theorem dX4_countAnswer_57 : decode cX4_countAnswer 57 = .ok (.aload_n 0, 1) := by decide +kernel
theorem dX4_countAnswer_58 : decode cX4_countAnswer 58 = .ok (.getfield 12, 3) := by decide +kernel
theorem dX4_countAnswer_61 : decode cX4_countAnswer 61 = .ok (.getfield 45, 3) := by decide +kernel
theorem dX4_countAnswer_64 : decode cX4_countAnswer 64 = .ok (.ireturn, 1) := by decide +kernel
theorem dX4_countAnswer_65 : decode cX4_countAnswer 65 = .ok (.aload_n 0, 1) := by decide +kernel
theorem dX4_countAnswer_66 : decode cX4_countAnswer 66 = .ok (.getfield 12, 3) := by decide +kernel
theorem dX4_countAnswer_69 : decode cX4_countAnswer 69 = .ok (.getfield 49, 3) := by decide +kernel
theorem dX4_countAnswer_72 : decode cX4_countAnswer 72 = .ok (.ireturn, 1) := by decide +kernel
theorem dX4_countAnswer_73 : decode cX4_countAnswer 73 = .ok (.aload_n 0, 1) := by decide +kernel
theorem dX4_countAnswer_74 : decode cX4_countAnswer 74 = .ok (.getfield 12, 3) := by decide +kernel
theorem dX4_countAnswer_77 : decode cX4_countAnswer 77 = .ok (.getfield 52, 3) := by decide +kernel
theorem dX4_countAnswer_80 : decode cX4_countAnswer 80 = .ok (.ireturn, 1) := by decide +kernel
theorem dX4_countAnswer_81 : decode cX4_countAnswer 81 = .ok (.aload_n 0, 1) := by decide +kernel
theorem dX4_countAnswer_82 : decode cX4_countAnswer 82 = .ok (.getfield 12, 3) := by decide +kernel
theorem dX4_countAnswer_85 : decode cX4_countAnswer 85 = .ok (.getfield 57, 3) := by decide +kernel
theorem dX4_countAnswer_88 : decode cX4_countAnswer 88 = .ok (.ireturn, 1) := by decide +kernel
theorem dX4_countAnswer_89 : decode cX4_countAnswer 89 = .ok (.aload_n 0, 1) := by decide +kernel
theorem dX4_countAnswer_90 : decode cX4_countAnswer 90 = .ok (.getfield 12, 3) := by decide +kernel
theorem dX4_countAnswer_93 : decode cX4_countAnswer 93 = .ok (.getfield 63, 3) := by decide +kernel
theorem dX4_countAnswer_96 : decode cX4_countAnswer 96 = .ok (.ireturn, 1) := by decide +kernel
theorem dX4_countAnswer_97 : decode cX4_countAnswer 97 = .ok (.aload_n 0, 1) := by decide +kernel
theorem dX4_countAnswer_98 : decode cX4_countAnswer 98 = .ok (.getfield 12, 3) := by decide +kernel
theorem dX4_countAnswer_101 : decode cX4_countAnswer 101 = .ok (.getfield 60, 3) := by decide +kernel
theorem dX4_countAnswer_104 : decode cX4_countAnswer 104 = .ok (.ireturn, 1) := by decide +kernel
theorem dX4_countAnswer_105 : decode cX4_countAnswer 105 = .ok (.aload_n 0, 1) := by decide +kernel
theorem dX4_countAnswer_106 : decode cX4_countAnswer 106 = .ok (.getfield 12, 3) := by decide +kernel
theorem dX4_countAnswer_109 : decode cX4_countAnswer 109 = .ok (.invokevirtual 163, 3) := by decide +kernel
theorem dX4_countAnswer_112 : decode cX4_countAnswer 112 = .ok (.ireturn, 1) := by decide +kernel
theorem dX4_countAnswer_113 : decode cX4_countAnswer 113 = .ok (.aload_n 0, 1) := by decide +kernel
theorem dX4_countAnswer_114 : decode cX4_countAnswer 114 = .ok (.invokevirtual 167, 3) := by decide +kernel
theorem dX4_countAnswer_117 : decode cX4_countAnswer 117 = .ok (.ireturn, 1) := by decide +kernel
theorem dX4_countAnswer_118 : decode cX4_countAnswer 118 = .ok (.aload_n 0, 1) := by decide +kernel
theorem dX4_countAnswer_119 : decode cX4_countAnswer 119 = .ok (.invokevirtual 170, 3) := by decide +kernel
theorem dX4_countAnswer_122 : decode cX4_countAnswer 122 = .ok (.ireturn, 1) := by decide +kernel
theorem dX4_invertedPlaces_0 : decode cX4_invertedPlaces 0 = .ok (.iconst 0, 1) := by decide +kernel
theorem dX4_invertedPlaces_1 : decode cX4_invertedPlaces 1 = .ok (.istore_n 1, 1) := by decide +kernel
theorem dX4_invertedPlaces_2 : decode cX4_invertedPlaces 2 = .ok (.iconst 0, 1) := by decide +kernel
theorem dX4_invertedPlaces_3 : decode cX4_invertedPlaces 3 = .ok (.istore_n 2, 1) := by decide +kernel
theorem dX4_invertedPlaces_4 : decode cX4_invertedPlaces 4 = .ok (.iload_n 2, 1) := by decide +kernel
theorem dX4_invertedPlaces_5 : decode cX4_invertedPlaces 5 = .ok (.bipush 30, 2) := by decide +kernel
theorem dX4_invertedPlaces_7 : decode cX4_invertedPlaces 7 = .ok (.if_icmp .ge 21, 3) := by decide +kernel
theorem dX4_invertedPlaces_10 : decode cX4_invertedPlaces 10 = .ok (.aload_n 0, 1) := by decide +kernel
theorem dX4_invertedPlaces_11 : decode cX4_invertedPlaces 11 = .ok (.getfield 23, 3) := by decide +kernel
theorem dX4_invertedPlaces_14 : decode cX4_invertedPlaces 14 = .ok (.iload_n 2, 1) := by decide +kernel
theorem dX4_invertedPlaces_15 : decode cX4_invertedPlaces 15 = .ok (.baload, 1) := by decide +kernel
theorem dX4_invertedPlaces_16 : decode cX4_invertedPlaces 16 = .ok (.ifCond .eq 6, 3) := by decide +kernel
theorem dX4_invertedPlaces_19 : decode cX4_invertedPlaces 19 = .ok (.iinc 1 1, 3) := by decide +kernel
theorem dX4_invertedPlaces_22 : decode cX4_invertedPlaces 22 = .ok (.iinc 2 1, 3) := by decide +kernel
theorem dX4_invertedPlaces_25 : decode cX4_invertedPlaces 25 = .ok (.goto (-21), 3) := by decide +kernel
theorem dX4_invertedPlaces_28 : decode cX4_invertedPlaces 28 = .ok (.iload_n 1, 1) := by decide +kernel
theorem dX4_invertedPlaces_29 : decode cX4_invertedPlaces 29 = .ok (.ireturn, 1) := by decide +kernel
set_option maxRecDepth 20000 in
theorem ggX4_worthOfSheets_X2_worth : GoodIn wsX4_worthOfSheets wsX2_worth := goodIn_r _ [7, 8, 9, 10, 6, 11, 12, 13, 19, 20] (by decide +kernel) (by decide +kernel)
set_option maxRecDepth 20000 in
theorem gX4_worthOfSheets_X2_worth : GoodIn wsX4_worthOfSheets (wsV RX4 173 RX2 yX2_worth wsX2_worth) := goodIn_app (goodIn_of _ (by decide +kernel)) ggX4_worthOfSheets_X2_worth
theorem dX4_worthOfSheets_0 : decode cX4_worthOfSheets 0 = .ok (.iconst 0, 1) := by decide +kernel
theorem dX4_worthOfSheets_1 : decode cX4_worthOfSheets 1 = .ok (.istore_n 1, 1) := by decide +kernel
theorem dX4_worthOfSheets_2 : decode cX4_worthOfSheets 2 = .ok (.iconst 0, 1) := by decide +kernel
theorem dX4_worthOfSheets_3 : decode cX4_worthOfSheets 3 = .ok (.istore_n 2, 1) := by decide +kernel
theorem dX4_worthOfSheets_4 : decode cX4_worthOfSheets 4 = .ok (.iload_n 2, 1) := by decide +kernel
theorem dX4_worthOfSheets_5 : decode cX4_worthOfSheets 5 = .ok (.aload_n 0, 1) := by decide +kernel
theorem dX4_worthOfSheets_6 : decode cX4_worthOfSheets 6 = .ok (.getfield 88, 3) := by decide +kernel
theorem dX4_worthOfSheets_9 : decode cX4_worthOfSheets 9 = .ok (.if_icmp .ge 21, 3) := by decide +kernel
theorem dX4_worthOfSheets_12 : decode cX4_worthOfSheets 12 = .ok (.iload_n 1, 1) := by decide +kernel
theorem dX4_worthOfSheets_13 : decode cX4_worthOfSheets 13 = .ok (.aload_n 0, 1) := by decide +kernel
theorem dX4_worthOfSheets_14 : decode cX4_worthOfSheets 14 = .ok (.getfield 29, 3) := by decide +kernel
theorem dX4_worthOfSheets_17 : decode cX4_worthOfSheets 17 = .ok (.iload_n 2, 1) := by decide +kernel
theorem dX4_worthOfSheets_18 : decode cX4_worthOfSheets 18 = .ok (.aaload, 1) := by decide +kernel
theorem dX4_worthOfSheets_19 : decode cX4_worthOfSheets 19 = .ok (.invokevirtual 173, 3) := by decide +kernel
theorem dX4_worthOfSheets_22 : decode cX4_worthOfSheets 22 = .ok (.iadd, 1) := by decide +kernel
theorem dX4_worthOfSheets_23 : decode cX4_worthOfSheets 23 = .ok (.istore_n 1, 1) := by decide +kernel
theorem dX4_worthOfSheets_24 : decode cX4_worthOfSheets 24 = .ok (.iinc 2 1, 3) := by decide +kernel
theorem dX4_worthOfSheets_27 : decode cX4_worthOfSheets 27 = .ok (.goto (-23), 3) := by decide +kernel
theorem dX4_worthOfSheets_30 : decode cX4_worthOfSheets 30 = .ok (.iload_n 1, 1) := by decide +kernel
theorem dX4_worthOfSheets_31 : decode cX4_worthOfSheets 31 = .ok (.ireturn, 1) := by decide +kernel
set_option maxRecDepth 20000 in
theorem ggX4_stampsWith_X2_leftWith : GoodIn wsX4_stampsWith wsX2_leftWith := goodIn_r _ [7, 8, 9, 10, 6, 11, 12, 13, 19, 20] (by decide +kernel) (by decide +kernel)
set_option maxRecDepth 20000 in
theorem gX4_stampsWith_X2_leftWith : GoodIn wsX4_stampsWith (wsV RX4 176 RX2 yX2_leftWith wsX2_leftWith) := goodIn_app (goodIn_of _ (by decide +kernel)) ggX4_stampsWith_X2_leftWith
theorem dX4_stampsWith_0 : decode cX4_stampsWith 0 = .ok (.iconst 0, 1) := by decide +kernel
theorem dX4_stampsWith_1 : decode cX4_stampsWith 1 = .ok (.istore_n 2, 1) := by decide +kernel
theorem dX4_stampsWith_2 : decode cX4_stampsWith 2 = .ok (.iconst 0, 1) := by decide +kernel
theorem dX4_stampsWith_3 : decode cX4_stampsWith 3 = .ok (.istore_n 3, 1) := by decide +kernel
theorem dX4_stampsWith_4 : decode cX4_stampsWith 4 = .ok (.iload_n 3, 1) := by decide +kernel
theorem dX4_stampsWith_5 : decode cX4_stampsWith 5 = .ok (.aload_n 0, 1) := by decide +kernel
theorem dX4_stampsWith_6 : decode cX4_stampsWith 6 = .ok (.getfield 88, 3) := by decide +kernel
theorem dX4_stampsWith_9 : decode cX4_stampsWith 9 = .ok (.if_icmp .ge 22, 3) := by decide +kernel
theorem dX4_stampsWith_12 : decode cX4_stampsWith 12 = .ok (.iload_n 2, 1) := by decide +kernel
theorem dX4_stampsWith_13 : decode cX4_stampsWith 13 = .ok (.aload_n 0, 1) := by decide +kernel
theorem dX4_stampsWith_14 : decode cX4_stampsWith 14 = .ok (.getfield 29, 3) := by decide +kernel
theorem dX4_stampsWith_17 : decode cX4_stampsWith 17 = .ok (.iload_n 3, 1) := by decide +kernel
theorem dX4_stampsWith_18 : decode cX4_stampsWith 18 = .ok (.aaload, 1) := by decide +kernel
theorem dX4_stampsWith_19 : decode cX4_stampsWith 19 = .ok (.iload_n 1, 1) := by decide +kernel
theorem dX4_stampsWith_20 : decode cX4_stampsWith 20 = .ok (.invokevirtual 176, 3) := by decide +kernel
theorem dX4_stampsWith_23 : decode cX4_stampsWith 23 = .ok (.iadd, 1) := by decide +kernel
theorem dX4_stampsWith_24 : decode cX4_stampsWith 24 = .ok (.istore_n 2, 1) := by decide +kernel
theorem dX4_stampsWith_25 : decode cX4_stampsWith 25 = .ok (.iinc 3 1, 3) := by decide +kernel
theorem dX4_stampsWith_28 : decode cX4_stampsWith 28 = .ok (.goto (-24), 3) := by decide +kernel
theorem dX4_stampsWith_31 : decode cX4_stampsWith 31 = .ok (.iload_n 2, 1) := by decide +kernel
theorem dX4_stampsWith_32 : decode cX4_stampsWith 32 = .ok (.ireturn, 1) := by decide +kernel
theorem dX5_init_0 : decode cX5_init 0 = .ok (.aload_n 0, 1) := by decide +kernel
theorem dX5_init_1 : decode cX5_init 1 = .ok (.invokespecial 1, 3) := by decide +kernel
theorem dX5_init_4 : decode cX5_init 4 = .ok (.aload_n 0, 1) := by decide +kernel
theorem dX5_init_5 : decode cX5_init 5 = .ok (.bipush 20, 2) := by decide +kernel
theorem dX5_init_7 : decode cX5_init 7 = .ok (.putfield 7, 3) := by decide +kernel
theorem dX5_init_10 : decode cX5_init 10 = .ok (.aload_n 0, 1) := by decide +kernel
theorem dX5_init_11 : decode cX5_init 11 = .ok (.iconst 1, 1) := by decide +kernel
theorem dX5_init_12 : decode cX5_init 12 = .ok (.putfield 13, 3) := by decide +kernel
theorem dX5_init_15 : decode cX5_init 15 = .ok (.aload_n 0, 1) := by decide +kernel
theorem dX5_init_16 : decode cX5_init 16 = .ok (.bipush 7, 2) := by decide +kernel
theorem dX5_init_18 : decode cX5_init 18 = .ok (.newarray .int, 2) := by decide +kernel
theorem dX5_init_20 : decode cX5_init 20 = .ok (.dup, 1) := by decide +kernel
theorem dX5_init_21 : decode cX5_init 21 = .ok (.iconst 0, 1) := by decide +kernel
theorem dX5_init_22 : decode cX5_init 22 = .ok (.sipush 200, 3) := by decide +kernel
theorem dX5_init_25 : decode cX5_init 25 = .ok (.iastore, 1) := by decide +kernel
theorem dX5_init_26 : decode cX5_init 26 = .ok (.dup, 1) := by decide +kernel
theorem dX5_init_27 : decode cX5_init 27 = .ok (.iconst 1, 1) := by decide +kernel
theorem dX5_init_28 : decode cX5_init 28 = .ok (.sipush 200, 3) := by decide +kernel
theorem dX5_init_31 : decode cX5_init 31 = .ok (.iastore, 1) := by decide +kernel
theorem dX5_init_32 : decode cX5_init 32 = .ok (.dup, 1) := by decide +kernel
theorem dX5_init_33 : decode cX5_init 33 = .ok (.iconst 2, 1) := by decide +kernel
theorem dX5_init_34 : decode cX5_init 34 = .ok (.sipush 200, 3) := by decide +kernel
theorem dX5_init_37 : decode cX5_init 37 = .ok (.iastore, 1) := by decide +kernel
theorem dX5_init_38 : decode cX5_init 38 = .ok (.dup, 1) := by decide +kernel
theorem dX5_init_39 : decode cX5_init 39 = .ok (.iconst 3, 1) := by decide +kernel
theorem dX5_init_40 : decode cX5_init 40 = .ok (.sipush 200, 3) := by decide +kernel
theorem dX5_init_43 : decode cX5_init 43 = .ok (.iastore, 1) := by decide +kernel
theorem dX5_init_44 : decode cX5_init 44 = .ok (.dup, 1) := by decide +kernel
theorem dX5_init_45 : decode cX5_init 45 = .ok (.iconst 4, 1) := by decide +kernel
theorem dX5_init_46 : decode cX5_init 46 = .ok (.sipush 200, 3) := by decide +kernel
theorem dX5_init_49 : decode cX5_init 49 = .ok (.iastore, 1) := by decide +kernel
theorem dX5_init_50 : decode cX5_init 50 = .ok (.dup, 1) := by decide +kernel
theorem dX5_init_51 : decode cX5_init 51 = .ok (.iconst 5, 1) := by decide +kernel
theorem dX5_init_52 : decode cX5_init 52 = .ok (.sipush 200, 3) := by decide +kernel
theorem dX5_init_55 : decode cX5_init 55 = .ok (.iastore, 1) := by decide +kernel
theorem dX5_init_56 : decode cX5_init 56 = .ok (.dup, 1) := by decide +kernel
theorem dX5_init_57 : decode cX5_init 57 = .ok (.bipush 6, 2) := by decide +kernel
theorem dX5_init_59 : decode cX5_init 59 = .ok (.sipush 200, 3) := by decide +kernel
theorem dX5_init_62 : decode cX5_init 62 = .ok (.iastore, 1) := by decide +kernel
theorem dX5_init_63 : decode cX5_init 63 = .ok (.putfield 16, 3) := by decide +kernel
theorem dX5_init_66 : decode cX5_init 66 = .ok (.aload_n 0, 1) := by decide +kernel
theorem dX5_init_67 : decode cX5_init 67 = .ok (.bipush 7, 2) := by decide +kernel
theorem dX5_init_69 : decode cX5_init 69 = .ok (.newarray .int, 2) := by decide +kernel
theorem dX5_init_71 : decode cX5_init 71 = .ok (.putfield 20, 3) := by decide +kernel
theorem dX5_init_74 : decode cX5_init 74 = .ok (.aload_n 0, 1) := by decide +kernel
theorem dX5_init_75 : decode cX5_init 75 = .ok (.bipush 7, 2) := by decide +kernel
theorem dX5_init_77 : decode cX5_init 77 = .ok (.newarray .boolean, 2) := by decide +kernel
theorem dX5_init_79 : decode cX5_init 79 = .ok (.putfield 23, 3) := by decide +kernel
theorem dX5_init_82 : decode cX5_init 82 = .ok (.aload_n 0, 1) := by decide +kernel
theorem dX5_init_83 : decode cX5_init 83 = .ok (.iconst 5, 1) := by decide +kernel
theorem dX5_init_84 : decode cX5_init 84 = .ok (.bipush 6, 2) := by decide +kernel
theorem dX5_init_86 : decode cX5_init 86 = .ok (.multianewarray 27 2, 4) := by decide +kernel
theorem dX5_init_90 : decode cX5_init 90 = .ok (.putfield 29, 3) := by decide +kernel
theorem dX5_init_93 : decode cX5_init 93 = .ok (.aload_n 0, 1) := by decide +kernel
theorem dX5_init_94 : decode cX5_init 94 = .ok (.iconst 0, 1) := by decide +kernel
theorem dX5_init_95 : decode cX5_init 95 = .ok (.anewarray 32, 3) := by decide +kernel
theorem dX5_init_98 : decode cX5_init 98 = .ok (.putfield 34, 3) := by decide +kernel
theorem dX5_init_101 : decode cX5_init 101 = .ok (.aload_n 0, 1) := by decide +kernel
theorem dX5_init_102 : decode cX5_init 102 = .ok (.iconst 0, 1) := by decide +kernel
theorem dX5_init_103 : decode cX5_init 103 = .ok (.anewarray 27, 3) := by decide +kernel
theorem dX5_init_106 : decode cX5_init 106 = .ok (.putfield 38, 3) := by decide +kernel
theorem dX5_init_109 : decode cX5_init 109 = .ok (.return_, 1) := by decide +kernel
theorem dX5_sheet_0 : decode cX5_sheet 0 = .ok (.iconst 5, 1) := by decide +kernel
theorem dX5_sheet_1 : decode cX5_sheet 1 = .ok (.bipush 6, 2) := by decide +kernel
theorem dX5_sheet_3 : decode cX5_sheet 3 = .ok (.multianewarray 32 2, 4) := by decide +kernel
theorem dX5_sheet_7 : decode cX5_sheet 7 = .ok (.astore_n 1, 1) := by decide +kernel
theorem dX5_sheet_8 : decode cX5_sheet 8 = .ok (.iconst 0, 1) := by decide +kernel
theorem dX5_sheet_9 : decode cX5_sheet 9 = .ok (.istore_n 2, 1) := by decide +kernel
theorem dX5_sheet_10 : decode cX5_sheet 10 = .ok (.iload_n 2, 1) := by decide +kernel
theorem dX5_sheet_11 : decode cX5_sheet 11 = .ok (.iconst 5, 1) := by decide +kernel
theorem dX5_sheet_12 : decode cX5_sheet 12 = .ok (.if_icmp .ge 210, 3) := by decide +kernel
theorem dX5_sheet_15 : decode cX5_sheet 15 = .ok (.aload_n 0, 1) := by decide +kernel
theorem dX5_sheet_16 : decode cX5_sheet 16 = .ok (.dup, 1) := by decide +kernel
theorem dX5_sheet_17 : decode cX5_sheet 17 = .ok (.getfield 46, 3) := by decide +kernel
theorem dX5_sheet_20 : decode cX5_sheet 20 = .ok (.aload_n 0, 1) := by decide +kernel
theorem dX5_sheet_21 : decode cX5_sheet 21 = .ok (.getfield 7, 3) := by decide +kernel
theorem dX5_sheet_24 : decode cX5_sheet 24 = .ok (.bipush 20, 2) := by decide +kernel
theorem dX5_sheet_26 : decode cX5_sheet 26 = .ok (.isub, 1) := by decide +kernel
theorem dX5_sheet_27 : decode cX5_sheet 27 = .ok (.iadd, 1) := by decide +kernel
theorem dX5_sheet_28 : decode cX5_sheet 28 = .ok (.putfield 46, 3) := by decide +kernel
theorem dX5_sheet_31 : decode cX5_sheet 31 = .ok (.iconst 0, 1) := by decide +kernel
theorem dX5_sheet_32 : decode cX5_sheet 32 = .ok (.istore_n 3, 1) := by decide +kernel
theorem dX5_sheet_33 : decode cX5_sheet 33 = .ok (.iload_n 3, 1) := by decide +kernel
theorem dX5_sheet_34 : decode cX5_sheet 34 = .ok (.bipush 6, 2) := by decide +kernel
theorem dX5_sheet_36 : decode cX5_sheet 36 = .ok (.if_icmp .ge 98, 3) := by decide +kernel
theorem dX5_sheet_39 : decode cX5_sheet 39 = .ok (.aload_n 0, 1) := by decide +kernel
theorem dX5_sheet_40 : decode cX5_sheet 40 = .ok (.getfield 46, 3) := by decide +kernel
theorem dX5_sheet_43 : decode cX5_sheet 43 = .ok (.bipush 6, 2) := by decide +kernel
theorem dX5_sheet_45 : decode cX5_sheet 45 = .ok (.if_icmp .gt 12, 3) := by decide +kernel
theorem dX5_sheet_48 : decode cX5_sheet 48 = .ok (.aload_n 0, 1) := by decide +kernel
theorem dX5_sheet_49 : decode cX5_sheet 49 = .ok (.getfield 46, 3) := by decide +kernel
theorem dX5_sheet_52 : decode cX5_sheet 52 = .ok (.bipush (-6), 2) := by decide +kernel
theorem dX5_sheet_54 : decode cX5_sheet 54 = .ok (.if_icmp .ge 7, 3) := by decide +kernel
theorem dX5_sheet_57 : decode cX5_sheet 57 = .ok (.iconst 1, 1) := by decide +kernel
theorem dX5_sheet_58 : decode cX5_sheet 58 = .ok (.goto 4, 3) := by decide +kernel
theorem dX5_sheet_61 : decode cX5_sheet 61 = .ok (.iconst 0, 1) := by decide +kernel
theorem dX5_sheet_62 : decode cX5_sheet 62 = .ok (.istore 4, 2) := by decide +kernel
theorem dX5_sheet_64 : decode cX5_sheet 64 = .ok (.aload_n 0, 1) := by decide +kernel
theorem dX5_sheet_65 : decode cX5_sheet 65 = .ok (.getfield 23, 3) := by decide +kernel
theorem dX5_sheet_68 : decode cX5_sheet 68 = .ok (.iload_n 3, 1) := by decide +kernel
theorem dX5_sheet_69 : decode cX5_sheet 69 = .ok (.baload, 1) := by decide +kernel
theorem dX5_sheet_70 : decode cX5_sheet 70 = .ok (.ifCond .eq 6, 3) := by decide +kernel
theorem dX5_sheet_73 : decode cX5_sheet 73 = .ok (.iinc 4 2, 3) := by decide +kernel
theorem dX5_sheet_76 : decode cX5_sheet 76 = .ok (.aload_n 0, 1) := by decide +kernel
theorem dX5_sheet_77 : decode cX5_sheet 77 = .ok (.getfield 23, 3) := by decide +kernel
theorem dX5_sheet_80 : decode cX5_sheet 80 = .ok (.iload_n 3, 1) := by decide +kernel
theorem dX5_sheet_81 : decode cX5_sheet 81 = .ok (.iconst 1, 1) := by decide +kernel
theorem dX5_sheet_82 : decode cX5_sheet 82 = .ok (.iadd, 1) := by decide +kernel
theorem dX5_sheet_83 : decode cX5_sheet 83 = .ok (.baload, 1) := by decide +kernel
theorem dX5_sheet_84 : decode cX5_sheet 84 = .ok (.ifCond .eq 6, 3) := by decide +kernel
theorem dX5_sheet_87 : decode cX5_sheet 87 = .ok (.iinc 4 4, 3) := by decide +kernel
theorem dX5_sheet_90 : decode cX5_sheet 90 = .ok (.aload_n 0, 1) := by decide +kernel
theorem dX5_sheet_91 : decode cX5_sheet 91 = .ok (.getfield 29, 3) := by decide +kernel
theorem dX5_sheet_94 : decode cX5_sheet 94 = .ok (.iload_n 2, 1) := by decide +kernel
theorem dX5_sheet_95 : decode cX5_sheet 95 = .ok (.aaload, 1) := by decide +kernel
theorem dX5_sheet_96 : decode cX5_sheet 96 = .ok (.iload_n 3, 1) := by decide +kernel
theorem dX5_sheet_97 : decode cX5_sheet 97 = .ok (.baload, 1) := by decide +kernel
theorem dX5_sheet_98 : decode cX5_sheet 98 = .ok (.ifCond .eq 6, 3) := by decide +kernel
theorem dX5_sheet_101 : decode cX5_sheet 101 = .ok (.iinc 4 8, 3) := by decide +kernel
theorem dX5_sheet_104 : decode cX5_sheet 104 = .ok (.aload_n 0, 1) := by decide +kernel
theorem dX5_sheet_105 : decode cX5_sheet 105 = .ok (.getfield 49, 3) := by decide +kernel
theorem dX5_sheet_108 : decode cX5_sheet 108 = .ok (.iload_n 3, 1) := by decide +kernel
theorem dX5_sheet_109 : decode cX5_sheet 109 = .ok (.iadd, 1) := by decide +kernel
theorem dX5_sheet_110 : decode cX5_sheet 110 = .ok (.aload_n 0, 1) := by decide +kernel
theorem dX5_sheet_111 : decode cX5_sheet 111 = .ok (.getfield 13, 3) := by decide +kernel
theorem dX5_sheet_114 : decode cX5_sheet 114 = .ok (.irem, 1) := by decide +kernel
theorem dX5_sheet_115 : decode cX5_sheet 115 = .ok (.ifCond .eq 6, 3) := by decide +kernel
theorem dX5_sheet_118 : decode cX5_sheet 118 = .ok (.iinc 4 16, 3) := by decide +kernel
theorem dX5_sheet_121 : decode cX5_sheet 121 = .ok (.aload_n 1, 1) := by decide +kernel
theorem dX5_sheet_122 : decode cX5_sheet 122 = .ok (.iload_n 2, 1) := by decide +kernel
theorem dX5_sheet_123 : decode cX5_sheet 123 = .ok (.aaload, 1) := by decide +kernel
theorem dX5_sheet_124 : decode cX5_sheet 124 = .ok (.iload_n 3, 1) := by decide +kernel
theorem dX5_sheet_125 : decode cX5_sheet 125 = .ok (.iload 4, 2) := by decide +kernel
theorem dX5_sheet_127 : decode cX5_sheet 127 = .ok (.iastore, 1) := by decide +kernel
theorem dX5_sheet_128 : decode cX5_sheet 128 = .ok (.iinc 3 1, 3) := by decide +kernel
theorem dX5_sheet_131 : decode cX5_sheet 131 = .ok (.goto (-98), 3) := by decide +kernel
theorem dX5_sheet_134 : decode cX5_sheet 134 = .ok (.iconst 0, 1) := by decide +kernel
theorem dX5_sheet_135 : decode cX5_sheet 135 = .ok (.istore_n 3, 1) := by decide +kernel
theorem dX5_sheet_136 : decode cX5_sheet 136 = .ok (.iload_n 3, 1) := by decide +kernel
theorem dX5_sheet_137 : decode cX5_sheet 137 = .ok (.bipush 7, 2) := by decide +kernel
theorem dX5_sheet_139 : decode cX5_sheet 139 = .ok (.if_icmp .ge 57, 3) := by decide +kernel
theorem dX5_sheet_142 : decode cX5_sheet 142 = .ok (.aload_n 0, 1) := by decide +kernel
theorem dX5_sheet_143 : decode cX5_sheet 143 = .ok (.getfield 23, 3) := by decide +kernel
theorem dX5_sheet_146 : decode cX5_sheet 146 = .ok (.iload_n 3, 1) := by decide +kernel
theorem dX5_sheet_147 : decode cX5_sheet 147 = .ok (.baload, 1) := by decide +kernel
theorem dX5_sheet_148 : decode cX5_sheet 148 = .ok (.ifCond .eq 6, 3) := by decide +kernel
theorem dX5_sheet_151 : decode cX5_sheet 151 = .ok (.goto 39, 3) := by decide +kernel
theorem dX5_sheet_154 : decode cX5_sheet 154 = .ok (.aload_n 0, 1) := by decide +kernel
theorem dX5_sheet_155 : decode cX5_sheet 155 = .ok (.getfield 20, 3) := by decide +kernel
theorem dX5_sheet_158 : decode cX5_sheet 158 = .ok (.iload_n 3, 1) := by decide +kernel
theorem dX5_sheet_159 : decode cX5_sheet 159 = .ok (.dup2, 1) := by decide +kernel
theorem dX5_sheet_160 : decode cX5_sheet 160 = .ok (.iaload, 1) := by decide +kernel
theorem dX5_sheet_161 : decode cX5_sheet 161 = .ok (.iconst 1, 1) := by decide +kernel
theorem dX5_sheet_162 : decode cX5_sheet 162 = .ok (.iadd, 1) := by decide +kernel
theorem dX5_sheet_163 : decode cX5_sheet 163 = .ok (.iastore, 1) := by decide +kernel
theorem dX5_sheet_164 : decode cX5_sheet 164 = .ok (.aload_n 0, 1) := by decide +kernel
theorem dX5_sheet_165 : decode cX5_sheet 165 = .ok (.getfield 23, 3) := by decide +kernel
theorem dX5_sheet_168 : decode cX5_sheet 168 = .ok (.iload_n 3, 1) := by decide +kernel
theorem dX5_sheet_169 : decode cX5_sheet 169 = .ok (.aload_n 0, 1) := by decide +kernel
theorem dX5_sheet_170 : decode cX5_sheet 170 = .ok (.getfield 20, 3) := by decide +kernel
theorem dX5_sheet_173 : decode cX5_sheet 173 = .ok (.iload_n 3, 1) := by decide +kernel
theorem dX5_sheet_174 : decode cX5_sheet 174 = .ok (.iaload, 1) := by decide +kernel
theorem dX5_sheet_175 : decode cX5_sheet 175 = .ok (.aload_n 0, 1) := by decide +kernel
theorem dX5_sheet_176 : decode cX5_sheet 176 = .ok (.getfield 16, 3) := by decide +kernel
theorem dX5_sheet_179 : decode cX5_sheet 179 = .ok (.iload_n 3, 1) := by decide +kernel
theorem dX5_sheet_180 : decode cX5_sheet 180 = .ok (.iaload, 1) := by decide +kernel
theorem dX5_sheet_181 : decode cX5_sheet 181 = .ok (.if_icmp .le 7, 3) := by decide +kernel
theorem dX5_sheet_184 : decode cX5_sheet 184 = .ok (.iconst 1, 1) := by decide +kernel
theorem dX5_sheet_185 : decode cX5_sheet 185 = .ok (.goto 4, 3) := by decide +kernel
theorem dX5_sheet_188 : decode cX5_sheet 188 = .ok (.iconst 0, 1) := by decide +kernel
theorem dX5_sheet_189 : decode cX5_sheet 189 = .ok (.bastore, 1) := by decide +kernel
theorem dX5_sheet_190 : decode cX5_sheet 190 = .ok (.iinc 3 1, 3) := by decide +kernel
theorem dX5_sheet_193 : decode cX5_sheet 193 = .ok (.goto (-57), 3) := by decide +kernel
theorem dX5_sheet_196 : decode cX5_sheet 196 = .ok (.aload_n 0, 1) := by decide +kernel
theorem dX5_sheet_197 : decode cX5_sheet 197 = .ok (.dup, 1) := by decide +kernel
theorem dX5_sheet_198 : decode cX5_sheet 198 = .ok (.getfield 52, 3) := by decide +kernel
theorem dX5_sheet_201 : decode cX5_sheet 201 = .ok (.iconst 1, 1) := by decide +kernel
theorem dX5_sheet_202 : decode cX5_sheet 202 = .ok (.isub, 1) := by decide +kernel
theorem dX5_sheet_203 : decode cX5_sheet 203 = .ok (.putfield 52, 3) := by decide +kernel
theorem dX5_sheet_206 : decode cX5_sheet 206 = .ok (.aload_n 0, 1) := by decide +kernel
theorem dX5_sheet_207 : decode cX5_sheet 207 = .ok (.dup, 1) := by decide +kernel
theorem dX5_sheet_208 : decode cX5_sheet 208 = .ok (.getfield 49, 3) := by decide +kernel
theorem dX5_sheet_211 : decode cX5_sheet 211 = .ok (.iconst 1, 1) := by decide +kernel
theorem dX5_sheet_212 : decode cX5_sheet 212 = .ok (.iadd, 1) := by decide +kernel
theorem dX5_sheet_213 : decode cX5_sheet 213 = .ok (.putfield 49, 3) := by decide +kernel
theorem dX5_sheet_216 : decode cX5_sheet 216 = .ok (.iinc 2 1, 3) := by decide +kernel
theorem dX5_sheet_219 : decode cX5_sheet 219 = .ok (.goto (-209), 3) := by decide +kernel
theorem dX5_sheet_222 : decode cX5_sheet 222 = .ok (.aload_n 0, 1) := by decide +kernel
theorem dX5_sheet_223 : decode cX5_sheet 223 = .ok (.dup, 1) := by decide +kernel
theorem dX5_sheet_224 : decode cX5_sheet 224 = .ok (.getfield 7, 3) := by decide +kernel
theorem dX5_sheet_227 : decode cX5_sheet 227 = .ok (.aload_n 0, 1) := by decide +kernel
theorem dX5_sheet_228 : decode cX5_sheet 228 = .ok (.getfield 43, 3) := by decide +kernel
theorem dX5_sheet_231 : decode cX5_sheet 231 = .ok (.iadd, 1) := by decide +kernel
theorem dX5_sheet_232 : decode cX5_sheet 232 = .ok (.putfield 7, 3) := by decide +kernel
theorem dX5_sheet_235 : decode cX5_sheet 235 = .ok (.aload_n 0, 1) := by decide +kernel
theorem dX5_sheet_236 : decode cX5_sheet 236 = .ok (.getfield 7, 3) := by decide +kernel
theorem dX5_sheet_239 : decode cX5_sheet 239 = .ok (.bipush 10, 2) := by decide +kernel
theorem dX5_sheet_241 : decode cX5_sheet 241 = .ok (.if_icmp .ge 9, 3) := by decide +kernel
theorem dX5_sheet_244 : decode cX5_sheet 244 = .ok (.aload_n 0, 1) := by decide +kernel
theorem dX5_sheet_245 : decode cX5_sheet 245 = .ok (.bipush 10, 2) := by decide +kernel
theorem dX5_sheet_247 : decode cX5_sheet 247 = .ok (.putfield 7, 3) := by decide +kernel
theorem dX5_sheet_250 : decode cX5_sheet 250 = .ok (.aload_n 0, 1) := by decide +kernel
theorem dX5_sheet_251 : decode cX5_sheet 251 = .ok (.getfield 7, 3) := by decide +kernel
theorem dX5_sheet_254 : decode cX5_sheet 254 = .ok (.bipush 30, 2) := by decide +kernel
theorem dX5_sheet_256 : decode cX5_sheet 256 = .ok (.if_icmp .le 9, 3) := by decide +kernel
theorem dX5_sheet_259 : decode cX5_sheet 259 = .ok (.aload_n 0, 1) := by decide +kernel
theorem dX5_sheet_260 : decode cX5_sheet 260 = .ok (.bipush 30, 2) := by decide +kernel
theorem dX5_sheet_262 : decode cX5_sheet 262 = .ok (.putfield 7, 3) := by decide +kernel
theorem dX5_sheet_265 : decode cX5_sheet 265 = .ok (.aload_n 1, 1) := by decide +kernel
theorem dX5_sheet_266 : decode cX5_sheet 266 = .ok (.areturn, 1) := by decide +kernel
set_option maxRecDepth 20000 in
theorem ggX5_run_X5_sheet : GoodIn wsX5_run wsX5_sheet := goodIn_r _ [10, 2, 11, 12, 13, 14, 15, 16, 17, 18, 19, 20, 21, 22, 23, 24, 25, 26, 27, 28, 29, 30, 31, 32, 33] (by decide +kernel) (by decide +kernel)
set_option maxRecDepth 20000 in
theorem gX5_run_X5_sheet : GoodIn wsX5_run (wsV RX5 55 RX5 yX5_sheet wsX5_sheet) := goodIn_app (goodIn_of _ (by decide +kernel)) ggX5_run_X5_sheet
theorem dX5_run_0 : decode cX5_run 0 = .ok (.aload_n 0, 1) := by decide +kernel
theorem dX5_run_1 : decode cX5_run 1 = .ok (.getfield 34, 3) := by decide +kernel
theorem dX5_run_4 : decode cX5_run 4 = .ok (.arraylength, 1) := by decide +kernel
theorem dX5_run_5 : decode cX5_run 5 = .ok (.istore_n 1, 1) := by decide +kernel
theorem dX5_run_6 : decode cX5_run 6 = .ok (.iload_n 1, 1) := by decide +kernel
theorem dX5_run_7 : decode cX5_run 7 = .ok (.iconst 1, 1) := by decide +kernel
theorem dX5_run_8 : decode cX5_run 8 = .ok (.iadd, 1) := by decide +kernel
theorem dX5_run_9 : decode cX5_run 9 = .ok (.anewarray 32, 3) := by decide +kernel
theorem dX5_run_12 : decode cX5_run 12 = .ok (.astore_n 2, 1) := by decide +kernel
theorem dX5_run_13 : decode cX5_run 13 = .ok (.iload_n 1, 1) := by decide +kernel
theorem dX5_run_14 : decode cX5_run 14 = .ok (.iconst 1, 1) := by decide +kernel
theorem dX5_run_15 : decode cX5_run 15 = .ok (.iadd, 1) := by decide +kernel
theorem dX5_run_16 : decode cX5_run 16 = .ok (.anewarray 27, 3) := by decide +kernel
theorem dX5_run_19 : decode cX5_run 19 = .ok (.astore_n 3, 1) := by decide +kernel
theorem dX5_run_20 : decode cX5_run 20 = .ok (.iconst 0, 1) := by decide +kernel
theorem dX5_run_21 : decode cX5_run 21 = .ok (.istore 4, 2) := by decide +kernel
theorem dX5_run_23 : decode cX5_run 23 = .ok (.iload 4, 2) := by decide +kernel
theorem dX5_run_25 : decode cX5_run 25 = .ok (.iload_n 1, 1) := by decide +kernel
theorem dX5_run_26 : decode cX5_run 26 = .ok (.if_icmp .ge 31, 3) := by decide +kernel
theorem dX5_run_29 : decode cX5_run 29 = .ok (.aload_n 2, 1) := by decide +kernel
theorem dX5_run_30 : decode cX5_run 30 = .ok (.iload 4, 2) := by decide +kernel
theorem dX5_run_32 : decode cX5_run 32 = .ok (.aload_n 0, 1) := by decide +kernel
theorem dX5_run_33 : decode cX5_run 33 = .ok (.getfield 34, 3) := by decide +kernel
theorem dX5_run_36 : decode cX5_run 36 = .ok (.iload 4, 2) := by decide +kernel
theorem dX5_run_38 : decode cX5_run 38 = .ok (.aaload, 1) := by decide +kernel
theorem dX5_run_39 : decode cX5_run 39 = .ok (.aastore, 1) := by decide +kernel
theorem dX5_run_40 : decode cX5_run 40 = .ok (.aload_n 3, 1) := by decide +kernel
theorem dX5_run_41 : decode cX5_run 41 = .ok (.iload 4, 2) := by decide +kernel
theorem dX5_run_43 : decode cX5_run 43 = .ok (.aload_n 0, 1) := by decide +kernel
theorem dX5_run_44 : decode cX5_run 44 = .ok (.getfield 38, 3) := by decide +kernel
theorem dX5_run_47 : decode cX5_run 47 = .ok (.iload 4, 2) := by decide +kernel
theorem dX5_run_49 : decode cX5_run 49 = .ok (.aaload, 1) := by decide +kernel
theorem dX5_run_50 : decode cX5_run 50 = .ok (.aastore, 1) := by decide +kernel
theorem dX5_run_51 : decode cX5_run 51 = .ok (.iinc 4 1, 3) := by decide +kernel
theorem dX5_run_54 : decode cX5_run 54 = .ok (.goto (-31), 3) := by decide +kernel
theorem dX5_run_57 : decode cX5_run 57 = .ok (.aload_n 2, 1) := by decide +kernel
theorem dX5_run_58 : decode cX5_run 58 = .ok (.iload_n 1, 1) := by decide +kernel
theorem dX5_run_59 : decode cX5_run 59 = .ok (.aload_n 0, 1) := by decide +kernel
theorem dX5_run_60 : decode cX5_run 60 = .ok (.invokevirtual 55, 3) := by decide +kernel
theorem dX5_run_63 : decode cX5_run 63 = .ok (.aastore, 1) := by decide +kernel
theorem dX5_run_64 : decode cX5_run 64 = .ok (.aload_n 3, 1) := by decide +kernel
theorem dX5_run_65 : decode cX5_run 65 = .ok (.iload_n 1, 1) := by decide +kernel
theorem dX5_run_66 : decode cX5_run 66 = .ok (.iconst 5, 1) := by decide +kernel
theorem dX5_run_67 : decode cX5_run 67 = .ok (.bipush 6, 2) := by decide +kernel
theorem dX5_run_69 : decode cX5_run 69 = .ok (.multianewarray 27 2, 4) := by decide +kernel
theorem dX5_run_73 : decode cX5_run 73 = .ok (.aastore, 1) := by decide +kernel
theorem dX5_run_74 : decode cX5_run 74 = .ok (.aload_n 0, 1) := by decide +kernel
theorem dX5_run_75 : decode cX5_run 75 = .ok (.aload_n 2, 1) := by decide +kernel
theorem dX5_run_76 : decode cX5_run 76 = .ok (.putfield 34, 3) := by decide +kernel
theorem dX5_run_79 : decode cX5_run 79 = .ok (.aload_n 0, 1) := by decide +kernel
theorem dX5_run_80 : decode cX5_run 80 = .ok (.aload_n 3, 1) := by decide +kernel
theorem dX5_run_81 : decode cX5_run 81 = .ok (.putfield 38, 3) := by decide +kernel
theorem dX5_run_84 : decode cX5_run 84 = .ok (.iload_n 1, 1) := by decide +kernel
theorem dX5_run_85 : decode cX5_run 85 = .ok (.ireturn, 1) := by decide +kernel
theorem dX5_worth_0 : decode cX5_worth 0 = .ok (.iload_n 1, 1) := by decide +kernel
theorem dX5_worth_1 : decode cX5_worth 1 = .ok (.ifCond .ne 10, 3) := by decide +kernel
theorem dX5_worth_4 : decode cX5_worth 4 = .ok (.iload_n 0, 1) := by decide +kernel
theorem dX5_worth_5 : decode cX5_worth 5 = .ok (.bipush 8, 2) := by decide +kernel
theorem dX5_worth_7 : decode cX5_worth 7 = .ok (.irem, 1) := by decide +kernel
theorem dX5_worth_8 : decode cX5_worth 8 = .ok (.ifCond .eq 5, 3) := by decide +kernel
theorem dX5_worth_11 : decode cX5_worth 11 = .ok (.iconst 0, 1) := by decide +kernel
theorem dX5_worth_12 : decode cX5_worth 12 = .ok (.ireturn, 1) := by decide +kernel
theorem dX5_worth_13 : decode cX5_worth 13 = .ok (.iload_n 0, 1) := by decide +kernel
theorem dX5_worth_14 : decode cX5_worth 14 = .ok (.ifCond .ne 7, 3) := by decide +kernel
theorem dX5_worth_17 : decode cX5_worth 17 = .ok (.iconst 1, 1) := by decide +kernel
theorem dX5_worth_18 : decode cX5_worth 18 = .ok (.goto 26, 3) := by decide +kernel
theorem dX5_worth_21 : decode cX5_worth 21 = .ok (.iload_n 0, 1) := by decide +kernel
theorem dX5_worth_22 : decode cX5_worth 22 = .ok (.bipush 8, 2) := by decide +kernel
theorem dX5_worth_24 : decode cX5_worth 24 = .ok (.if_icmp .ne 8, 3) := by decide +kernel
theorem dX5_worth_27 : decode cX5_worth 27 = .ok (.bipush 21, 2) := by decide +kernel
theorem dX5_worth_29 : decode cX5_worth 29 = .ok (.goto 15, 3) := by decide +kernel
theorem dX5_worth_32 : decode cX5_worth 32 = .ok (.iload_n 0, 1) := by decide +kernel
theorem dX5_worth_33 : decode cX5_worth 33 = .ok (.bipush 16, 2) := by decide +kernel
theorem dX5_worth_35 : decode cX5_worth 35 = .ok (.if_icmp .ne 7, 3) := by decide +kernel
theorem dX5_worth_38 : decode cX5_worth 38 = .ok (.iconst 5, 1) := by decide +kernel
theorem dX5_worth_39 : decode cX5_worth 39 = .ok (.goto 5, 3) := by decide +kernel
theorem dX5_worth_42 : decode cX5_worth 42 = .ok (.bipush 25, 2) := by decide +kernel
theorem dX5_worth_44 : decode cX5_worth 44 = .ok (.ireturn, 1) := by decide +kernel
set_option maxRecDepth 20000 in
theorem ggX5_told_X5_worth : GoodIn wsX5_told wsX5_worth := goodIn_r _ [11] (by decide +kernel) (by decide +kernel)
set_option maxRecDepth 20000 in
theorem gX5_told_X5_worth : GoodIn wsX5_told (va_wsS RX5 59 yX5_worth wsX5_worth) := goodIn_app (goodIn_of _ (by decide +kernel)) ggX5_told_X5_worth
theorem dX5_told_0 : decode cX5_told 0 = .ok (.iconst 0, 1) := by decide +kernel
theorem dX5_told_1 : decode cX5_told 1 = .ok (.istore_n 3, 1) := by decide +kernel
theorem dX5_told_2 : decode cX5_told 2 = .ok (.iconst 0, 1) := by decide +kernel
theorem dX5_told_3 : decode cX5_told 3 = .ok (.istore 4, 2) := by decide +kernel
theorem dX5_told_5 : decode cX5_told 5 = .ok (.iload 4, 2) := by decide +kernel
theorem dX5_told_7 : decode cX5_told 7 = .ok (.iconst 5, 1) := by decide +kernel
theorem dX5_told_8 : decode cX5_told 8 = .ok (.if_icmp .ge 199, 3) := by decide +kernel
theorem dX5_told_11 : decode cX5_told 11 = .ok (.iload_n 2, 1) := by decide +kernel
theorem dX5_told_12 : decode cX5_told 12 = .ok (.iconst 4, 1) := by decide +kernel
theorem dX5_told_13 : decode cX5_told 13 = .ok (.if_icmp .ne 19, 3) := by decide +kernel
theorem dX5_told_16 : decode cX5_told 16 = .ok (.iload_n 3, 1) := by decide +kernel
theorem dX5_told_17 : decode cX5_told 17 = .ok (.aload_n 0, 1) := by decide +kernel
theorem dX5_told_18 : decode cX5_told 18 = .ok (.getfield 34, 3) := by decide +kernel
theorem dX5_told_21 : decode cX5_told 21 = .ok (.iload_n 1, 1) := by decide +kernel
theorem dX5_told_22 : decode cX5_told 22 = .ok (.aaload, 1) := by decide +kernel
theorem dX5_told_23 : decode cX5_told 23 = .ok (.iload 4, 2) := by decide +kernel
theorem dX5_told_25 : decode cX5_told 25 = .ok (.aaload, 1) := by decide +kernel
theorem dX5_told_26 : decode cX5_told 26 = .ok (.iconst 0, 1) := by decide +kernel
theorem dX5_told_27 : decode cX5_told 27 = .ok (.iaload, 1) := by decide +kernel
theorem dX5_told_28 : decode cX5_told 28 = .ok (.iconst 2, 1) := by decide +kernel
theorem dX5_told_29 : decode cX5_told 29 = .ok (.irem, 1) := by decide +kernel
theorem dX5_told_30 : decode cX5_told 30 = .ok (.iadd, 1) := by decide +kernel
theorem dX5_told_31 : decode cX5_told 31 = .ok (.istore_n 3, 1) := by decide +kernel
theorem dX5_told_32 : decode cX5_told 32 = .ok (.iconst 0, 1) := by decide +kernel
theorem dX5_told_33 : decode cX5_told 33 = .ok (.istore 5, 2) := by decide +kernel
theorem dX5_told_35 : decode cX5_told 35 = .ok (.iload 5, 2) := by decide +kernel
theorem dX5_told_37 : decode cX5_told 37 = .ok (.bipush 6, 2) := by decide +kernel
theorem dX5_told_39 : decode cX5_told 39 = .ok (.if_icmp .ge 162, 3) := by decide +kernel
theorem dX5_told_42 : decode cX5_told 42 = .ok (.aload_n 0, 1) := by decide +kernel
theorem dX5_told_43 : decode cX5_told 43 = .ok (.getfield 38, 3) := by decide +kernel
theorem dX5_told_46 : decode cX5_told 46 = .ok (.iload_n 1, 1) := by decide +kernel
theorem dX5_told_47 : decode cX5_told 47 = .ok (.aaload, 1) := by decide +kernel
theorem dX5_told_48 : decode cX5_told 48 = .ok (.iload 4, 2) := by decide +kernel
theorem dX5_told_50 : decode cX5_told 50 = .ok (.aaload, 1) := by decide +kernel
theorem dX5_told_51 : decode cX5_told 51 = .ok (.iload 5, 2) := by decide +kernel
theorem dX5_told_53 : decode cX5_told 53 = .ok (.baload, 1) := by decide +kernel
theorem dX5_told_54 : decode cX5_told 54 = .ok (.istore 6, 2) := by decide +kernel
theorem dX5_told_56 : decode cX5_told 56 = .ok (.aload_n 0, 1) := by decide +kernel
theorem dX5_told_57 : decode cX5_told 57 = .ok (.getfield 34, 3) := by decide +kernel
theorem dX5_told_60 : decode cX5_told 60 = .ok (.iload_n 1, 1) := by decide +kernel
theorem dX5_told_61 : decode cX5_told 61 = .ok (.aaload, 1) := by decide +kernel
theorem dX5_told_62 : decode cX5_told 62 = .ok (.iload 4, 2) := by decide +kernel
theorem dX5_told_64 : decode cX5_told 64 = .ok (.aaload, 1) := by decide +kernel
theorem dX5_told_65 : decode cX5_told 65 = .ok (.iload 5, 2) := by decide +kernel
theorem dX5_told_67 : decode cX5_told 67 = .ok (.iaload, 1) := by decide +kernel
theorem dX5_told_68 : decode cX5_told 68 = .ok (.istore 7, 2) := by decide +kernel
theorem dX5_told_70 : decode cX5_told 70 = .ok (.iload_n 2, 1) := by decide +kernel
theorem dX5_told_71 : decode cX5_told 71 = .ok (.ifCond .ne 16, 3) := by decide +kernel
theorem dX5_told_74 : decode cX5_told 74 = .ok (.iload_n 3, 1) := by decide +kernel
theorem dX5_told_75 : decode cX5_told 75 = .ok (.iload 6, 2) := by decide +kernel
theorem dX5_told_77 : decode cX5_told 77 = .ok (.ifCond .eq 7, 3) := by decide +kernel
theorem dX5_told_80 : decode cX5_told 80 = .ok (.iconst 0, 1) := by decide +kernel
theorem dX5_told_81 : decode cX5_told 81 = .ok (.goto 4, 3) := by decide +kernel
theorem dX5_told_84 : decode cX5_told 84 = .ok (.iconst 1, 1) := by decide +kernel
theorem dX5_told_85 : decode cX5_told 85 = .ok (.iadd, 1) := by decide +kernel
theorem dX5_told_86 : decode cX5_told 86 = .ok (.istore_n 3, 1) := by decide +kernel
theorem dX5_told_87 : decode cX5_told 87 = .ok (.iload_n 2, 1) := by decide +kernel
theorem dX5_told_88 : decode cX5_told 88 = .ok (.iconst 1, 1) := by decide +kernel
theorem dX5_told_89 : decode cX5_told 89 = .ok (.if_icmp .ne 21, 3) := by decide +kernel
theorem dX5_told_92 : decode cX5_told 92 = .ok (.iload_n 3, 1) := by decide +kernel
theorem dX5_told_93 : decode cX5_told 93 = .ok (.iload 6, 2) := by decide +kernel
theorem dX5_told_95 : decode cX5_told 95 = .ok (.ifCond .ne 8, 3) := by decide +kernel
theorem dX5_told_98 : decode cX5_told 98 = .ok (.iload 7, 2) := by decide +kernel
theorem dX5_told_100 : decode cX5_told 100 = .ok (.ifCond .eq 7, 3) := by decide +kernel
theorem dX5_told_103 : decode cX5_told 103 = .ok (.iconst 0, 1) := by decide +kernel
theorem dX5_told_104 : decode cX5_told 104 = .ok (.goto 4, 3) := by decide +kernel
theorem dX5_told_107 : decode cX5_told 107 = .ok (.iconst 1, 1) := by decide +kernel
theorem dX5_told_108 : decode cX5_told 108 = .ok (.iadd, 1) := by decide +kernel
theorem dX5_told_109 : decode cX5_told 109 = .ok (.istore_n 3, 1) := by decide +kernel
theorem dX5_told_110 : decode cX5_told 110 = .ok (.iload_n 2, 1) := by decide +kernel
theorem dX5_told_111 : decode cX5_told 111 = .ok (.iconst 2, 1) := by decide +kernel
theorem dX5_told_112 : decode cX5_told 112 = .ok (.if_icmp .ne 13, 3) := by decide +kernel
theorem dX5_told_115 : decode cX5_told 115 = .ok (.iload_n 3, 1) := by decide +kernel
theorem dX5_told_116 : decode cX5_told 116 = .ok (.iload 7, 2) := by decide +kernel
theorem dX5_told_118 : decode cX5_told 118 = .ok (.iload 6, 2) := by decide +kernel
theorem dX5_told_120 : decode cX5_told 120 = .ok (.invokestatic 59, 3) := by decide +kernel
theorem dX5_told_123 : decode cX5_told 123 = .ok (.iadd, 1) := by decide +kernel
theorem dX5_told_124 : decode cX5_told 124 = .ok (.istore_n 3, 1) := by decide +kernel
theorem dX5_told_125 : decode cX5_told 125 = .ok (.iload_n 2, 1) := by decide +kernel
theorem dX5_told_126 : decode cX5_told 126 = .ok (.iconst 3, 1) := by decide +kernel
theorem dX5_told_127 : decode cX5_told 127 = .ok (.if_icmp .ne 68, 3) := by decide +kernel
theorem dX5_told_130 : decode cX5_told 130 = .ok (.iload 5, 2) := by decide +kernel
theorem dX5_told_132 : decode cX5_told 132 = .ok (.iconst 5, 1) := by decide +kernel
theorem dX5_told_133 : decode cX5_told 133 = .ok (.if_icmp .ge 62, 3) := by decide +kernel
theorem dX5_told_136 : decode cX5_told 136 = .ok (.iload 6, 2) := by decide +kernel
theorem dX5_told_138 : decode cX5_told 138 = .ok (.ifCond .ne 57, 3) := by decide +kernel
theorem dX5_told_141 : decode cX5_told 141 = .ok (.aload_n 0, 1) := by decide +kernel
theorem dX5_told_142 : decode cX5_told 142 = .ok (.getfield 38, 3) := by decide +kernel
theorem dX5_told_145 : decode cX5_told 145 = .ok (.iload_n 1, 1) := by decide +kernel
theorem dX5_told_146 : decode cX5_told 146 = .ok (.aaload, 1) := by decide +kernel
theorem dX5_told_147 : decode cX5_told 147 = .ok (.iload 4, 2) := by decide +kernel
theorem dX5_told_149 : decode cX5_told 149 = .ok (.aaload, 1) := by decide +kernel
theorem dX5_told_150 : decode cX5_told 150 = .ok (.iload 5, 2) := by decide +kernel
theorem dX5_told_152 : decode cX5_told 152 = .ok (.iconst 1, 1) := by decide +kernel
theorem dX5_told_153 : decode cX5_told 153 = .ok (.iadd, 1) := by decide +kernel
theorem dX5_told_154 : decode cX5_told 154 = .ok (.baload, 1) := by decide +kernel
theorem dX5_told_155 : decode cX5_told 155 = .ok (.ifCond .ne 40, 3) := by decide +kernel
theorem dX5_told_158 : decode cX5_told 158 = .ok (.iload_n 3, 1) := by decide +kernel
theorem dX5_told_159 : decode cX5_told 159 = .ok (.iload 7, 2) := by decide +kernel
theorem dX5_told_161 : decode cX5_told 161 = .ok (.bipush 8, 2) := by decide +kernel
theorem dX5_told_163 : decode cX5_told 163 = .ok (.idiv, 1) := by decide +kernel
theorem dX5_told_164 : decode cX5_told 164 = .ok (.iconst 2, 1) := by decide +kernel
theorem dX5_told_165 : decode cX5_told 165 = .ok (.irem, 1) := by decide +kernel
theorem dX5_told_166 : decode cX5_told 166 = .ok (.aload_n 0, 1) := by decide +kernel
theorem dX5_told_167 : decode cX5_told 167 = .ok (.getfield 34, 3) := by decide +kernel
theorem dX5_told_170 : decode cX5_told 170 = .ok (.iload_n 1, 1) := by decide +kernel
theorem dX5_told_171 : decode cX5_told 171 = .ok (.aaload, 1) := by decide +kernel
theorem dX5_told_172 : decode cX5_told 172 = .ok (.iload 4, 2) := by decide +kernel
theorem dX5_told_174 : decode cX5_told 174 = .ok (.aaload, 1) := by decide +kernel
theorem dX5_told_175 : decode cX5_told 175 = .ok (.iload 5, 2) := by decide +kernel
theorem dX5_told_177 : decode cX5_told 177 = .ok (.iconst 1, 1) := by decide +kernel
theorem dX5_told_178 : decode cX5_told 178 = .ok (.iadd, 1) := by decide +kernel
theorem dX5_told_179 : decode cX5_told 179 = .ok (.iaload, 1) := by decide +kernel
theorem dX5_told_180 : decode cX5_told 180 = .ok (.bipush 8, 2) := by decide +kernel
theorem dX5_told_182 : decode cX5_told 182 = .ok (.idiv, 1) := by decide +kernel
theorem dX5_told_183 : decode cX5_told 183 = .ok (.iconst 2, 1) := by decide +kernel
theorem dX5_told_184 : decode cX5_told 184 = .ok (.irem, 1) := by decide +kernel
theorem dX5_told_185 : decode cX5_told 185 = .ok (.if_icmp .eq 7, 3) := by decide +kernel
theorem dX5_told_188 : decode cX5_told 188 = .ok (.iconst 1, 1) := by decide +kernel
theorem dX5_told_189 : decode cX5_told 189 = .ok (.goto 4, 3) := by decide +kernel
theorem dX5_told_192 : decode cX5_told 192 = .ok (.iconst 0, 1) := by decide +kernel
theorem dX5_told_193 : decode cX5_told 193 = .ok (.iadd, 1) := by decide +kernel
theorem dX5_told_194 : decode cX5_told 194 = .ok (.istore_n 3, 1) := by decide +kernel
theorem dX5_told_195 : decode cX5_told 195 = .ok (.iinc 5 1, 3) := by decide +kernel
theorem dX5_told_198 : decode cX5_told 198 = .ok (.goto (-163), 3) := by decide +kernel
theorem dX5_told_201 : decode cX5_told 201 = .ok (.iinc 4 1, 3) := by decide +kernel
theorem dX5_told_204 : decode cX5_told 204 = .ok (.goto (-199), 3) := by decide +kernel
theorem dX5_told_207 : decode cX5_told 207 = .ok (.iload_n 2, 1) := by decide +kernel
theorem dX5_told_208 : decode cX5_told 208 = .ok (.iconst 5, 1) := by decide +kernel
theorem dX5_told_209 : decode cX5_told 209 = .ok (.if_icmp .ge 5, 3) := by decide +kernel
theorem dX5_told_212 : decode cX5_told 212 = .ok (.iload_n 3, 1) := by decide +kernel
theorem dX5_told_213 : decode cX5_told 213 = .ok (.ireturn, 1) := by decide +kernel
theorem dX5_told_214 : decode cX5_told 214 = .ok (.iconst 0, 1) := by decide +kernel
theorem dX5_told_215 : decode cX5_told 215 = .ok (.istore 4, 2) := by decide +kernel
theorem dX5_told_217 : decode cX5_told 217 = .ok (.iconst 0, 1) := by decide +kernel
theorem dX5_told_218 : decode cX5_told 218 = .ok (.istore 5, 2) := by decide +kernel
theorem dX5_told_220 : decode cX5_told 220 = .ok (.iload 5, 2) := by decide +kernel
theorem dX5_told_222 : decode cX5_told 222 = .ok (.iconst 5, 1) := by decide +kernel
theorem dX5_told_223 : decode cX5_told 223 = .ok (.if_icmp .ge 157, 3) := by decide +kernel
theorem dX5_told_226 : decode cX5_told 226 = .ok (.bipush 6, 2) := by decide +kernel
theorem dX5_told_228 : decode cX5_told 228 = .ok (.newarray .boolean, 2) := by decide +kernel
theorem dX5_told_230 : decode cX5_told 230 = .ok (.dup, 1) := by decide +kernel
theorem dX5_told_231 : decode cX5_told 231 = .ok (.iconst 0, 1) := by decide +kernel
theorem dX5_told_232 : decode cX5_told 232 = .ok (.iconst 1, 1) := by decide +kernel
theorem dX5_told_233 : decode cX5_told 233 = .ok (.bastore, 1) := by decide +kernel
theorem dX5_told_234 : decode cX5_told 234 = .ok (.dup, 1) := by decide +kernel
theorem dX5_told_235 : decode cX5_told 235 = .ok (.iconst 1, 1) := by decide +kernel
theorem dX5_told_236 : decode cX5_told 236 = .ok (.iconst 1, 1) := by decide +kernel
theorem dX5_told_237 : decode cX5_told 237 = .ok (.bastore, 1) := by decide +kernel
theorem dX5_told_238 : decode cX5_told 238 = .ok (.dup, 1) := by decide +kernel
theorem dX5_told_239 : decode cX5_told 239 = .ok (.iconst 2, 1) := by decide +kernel
theorem dX5_told_240 : decode cX5_told 240 = .ok (.iconst 1, 1) := by decide +kernel
theorem dX5_told_241 : decode cX5_told 241 = .ok (.bastore, 1) := by decide +kernel
theorem dX5_told_242 : decode cX5_told 242 = .ok (.dup, 1) := by decide +kernel
theorem dX5_told_243 : decode cX5_told 243 = .ok (.iconst 3, 1) := by decide +kernel
theorem dX5_told_244 : decode cX5_told 244 = .ok (.iconst 1, 1) := by decide +kernel
theorem dX5_told_245 : decode cX5_told 245 = .ok (.bastore, 1) := by decide +kernel
theorem dX5_told_246 : decode cX5_told 246 = .ok (.dup, 1) := by decide +kernel
theorem dX5_told_247 : decode cX5_told 247 = .ok (.iconst 4, 1) := by decide +kernel
theorem dX5_told_248 : decode cX5_told 248 = .ok (.iconst 1, 1) := by decide +kernel
theorem dX5_told_249 : decode cX5_told 249 = .ok (.bastore, 1) := by decide +kernel
theorem dX5_told_250 : decode cX5_told 250 = .ok (.dup, 1) := by decide +kernel
theorem dX5_told_251 : decode cX5_told 251 = .ok (.iconst 5, 1) := by decide +kernel
theorem dX5_told_252 : decode cX5_told 252 = .ok (.iconst 1, 1) := by decide +kernel
theorem dX5_told_253 : decode cX5_told 253 = .ok (.bastore, 1) := by decide +kernel
theorem dX5_told_254 : decode cX5_told 254 = .ok (.astore 6, 2) := by decide +kernel
theorem dX5_told_256 : decode cX5_told 256 = .ok (.iload 5, 2) := by decide +kernel
theorem dX5_told_258 : decode cX5_told 258 = .ok (.istore 7, 2) := by decide +kernel
theorem dX5_told_260 : decode cX5_told 260 = .ok (.iload 7, 2) := by decide +kernel
theorem dX5_told_262 : decode cX5_told 262 = .ok (.iconst 5, 1) := by decide +kernel
theorem dX5_told_263 : decode cX5_told 263 = .ok (.if_icmp .ge 111, 3) := by decide +kernel
theorem dX5_told_266 : decode cX5_told 266 = .ok (.iconst 0, 1) := by decide +kernel
theorem dX5_told_267 : decode cX5_told 267 = .ok (.istore 8, 2) := by decide +kernel
theorem dX5_told_269 : decode cX5_told 269 = .ok (.iconst 0, 1) := by decide +kernel
theorem dX5_told_270 : decode cX5_told 270 = .ok (.istore 9, 2) := by decide +kernel
theorem dX5_told_272 : decode cX5_told 272 = .ok (.iload 9, 2) := by decide +kernel
theorem dX5_told_274 : decode cX5_told 274 = .ok (.bipush 6, 2) := by decide +kernel
theorem dX5_told_276 : decode cX5_told 276 = .ok (.if_icmp .ge 92, 3) := by decide +kernel
theorem dX5_told_279 : decode cX5_told 279 = .ok (.aload 6, 2) := by decide +kernel
theorem dX5_told_281 : decode cX5_told 281 = .ok (.iload 9, 2) := by decide +kernel
theorem dX5_told_283 : decode cX5_told 283 = .ok (.aload 6, 2) := by decide +kernel
theorem dX5_told_285 : decode cX5_told 285 = .ok (.iload 9, 2) := by decide +kernel
theorem dX5_told_287 : decode cX5_told 287 = .ok (.baload, 1) := by decide +kernel
theorem dX5_told_288 : decode cX5_told 288 = .ok (.ifCond .eq 37, 3) := by decide +kernel
theorem dX5_told_291 : decode cX5_told 291 = .ok (.aload_n 0, 1) := by decide +kernel
theorem dX5_told_292 : decode cX5_told 292 = .ok (.getfield 38, 3) := by decide +kernel
theorem dX5_told_295 : decode cX5_told 295 = .ok (.iload_n 1, 1) := by decide +kernel
theorem dX5_told_296 : decode cX5_told 296 = .ok (.aaload, 1) := by decide +kernel
theorem dX5_told_297 : decode cX5_told 297 = .ok (.iload 7, 2) := by decide +kernel
theorem dX5_told_299 : decode cX5_told 299 = .ok (.aaload, 1) := by decide +kernel
theorem dX5_told_300 : decode cX5_told 300 = .ok (.iload 9, 2) := by decide +kernel
theorem dX5_told_302 : decode cX5_told 302 = .ok (.baload, 1) := by decide +kernel
theorem dX5_told_303 : decode cX5_told 303 = .ok (.ifCond .ne 22, 3) := by decide +kernel
