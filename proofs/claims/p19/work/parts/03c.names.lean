theorem dX4_countAnswer_96 : decode cX4_countAnswer 96 = .ok (.ireturn, 1) := by decide +kernel
theorem dX4_countAnswer_97 : decode cX4_countAnswer 97 = .ok (.aload_n 0, 1) := by decide +kernel
theorem dX4_countAnswer_98 : decode cX4_countAnswer 98 = .ok (.getfield 12, 3) := by decide +kernel
theorem dX4_countAnswer_101 : decode cX4_countAnswer 101 = .ok (.getfield 60, 3) := by decide +kernel
theorem dX4_countAnswer_104 : decode cX4_countAnswer 104 = .ok (.ireturn, 1) := by decide +kernel
theorem dX4_countAnswer_105 : decode cX4_countAnswer 105 = .ok (.aload_n 0, 1) := by decide +kernel
theorem dX4_countAnswer_106 : decode cX4_countAnswer 106 = .ok (.getfield 12, 3) := by decide +kernel
theorem dX4_countAnswer_109 : decode cX4_countAnswer 109 = .ok (.invokevirtual 163, 3) := by decide +kernel
theorem dX4_countAnswer_112 : decode cX4_countAnswer 112 = .ok (.ireturn, 1) := by decide +kernel
theorem dX4_countAnswer_113 : decode cX4_countAnswer 113 = .ok (.aload_n 0, 1) := by decide +kernel
theorem dX4_countAnswer_114 : decode cX4_countAnswer 114 = .ok (.invokevirtual 167, 3) := by decide +kernel
theorem dX4_countAnswer_117 : decode cX4_countAnswer 117 = .ok (.ireturn, 1) := by decide +kernel
theorem dX4_countAnswer_118 : decode cX4_countAnswer 118 = .ok (.aload_n 0, 1) := by decide +kernel
theorem dX4_countAnswer_119 : decode cX4_countAnswer 119 = .ok (.invokevirtual 170, 3) := by decide +kernel
theorem dX4_countAnswer_122 : decode cX4_countAnswer 122 = .ok (.ireturn, 1) := by decide +kernel
theorem dX4_invertedPlaces_0 : decode cX4_invertedPlaces 0 = .ok (.iconst 0, 1) := by decide +kernel
theorem dX4_invertedPlaces_1 : decode cX4_invertedPlaces 1 = .ok (.istore_n 1, 1) := by decide +kernel
theorem dX4_invertedPlaces_2 : decode cX4_invertedPlaces 2 = .ok (.iconst 0, 1) := by decide +kernel
theorem dX4_invertedPlaces_3 : decode cX4_invertedPlaces 3 = .ok (.istore_n 2, 1) := by decide +kernel
theorem dX4_invertedPlaces_4 : decode cX4_invertedPlaces 4 = .ok (.iload_n 2, 1) := by decide +kernel
theorem dX4_invertedPlaces_5 : decode cX4_invertedPlaces 5 = .ok (.bipush 30, 2) := by decide +kernel
theorem dX4_invertedPlaces_7 : decode cX4_invertedPlaces 7 = .ok (.if_icmp .ge 21, 3) := by decide +kernel
theorem dX4_invertedPlaces_10 : decode cX4_invertedPlaces 10 = .ok (.aload_n 0, 1) := by decide +kernel
theorem dX4_invertedPlaces_11 : decode cX4_invertedPlaces 11 = .ok (.getfield 23, 3) := by decide +kernel
theorem dX4_invertedPlaces_14 : decode cX4_invertedPlaces 14 = .ok (.iload_n 2, 1) := by decide +kernel
theorem dX4_invertedPlaces_15 : decode cX4_invertedPlaces 15 = .ok (.baload, 1) := by decide +kernel
theorem dX4_invertedPlaces_16 : decode cX4_invertedPlaces 16 = .ok (.ifCond .eq 6, 3) := by decide +kernel
theorem dX4_invertedPlaces_19 : decode cX4_invertedPlaces 19 = .ok (.iinc 1 1, 3) := by decide +kernel
theorem dX4_invertedPlaces_22 : decode cX4_invertedPlaces 22 = .ok (.iinc 2 1, 3) := by decide +kernel
theorem dX4_invertedPlaces_25 : decode cX4_invertedPlaces 25 = .ok (.goto (-21), 3) := by decide +kernel
theorem dX4_invertedPlaces_28 : decode cX4_invertedPlaces 28 = .ok (.iload_n 1, 1) := by decide +kernel
theorem dX4_invertedPlaces_29 : decode cX4_invertedPlaces 29 = .ok (.ireturn, 1) := by decide +kernel
set_option maxRecDepth 20000 in
theorem ggX4_worthOfSheets_X2_worth : GoodIn wsX4_worthOfSheets wsX2_worth := goodIn_r _ [7, 8, 9, 10, 6, 11, 12, 13, 19, 20] (by decide +kernel) (by decide +kernel)
set_option maxRecDepth 20000 in
theorem gX4_worthOfSheets_X2_worth : GoodIn wsX4_worthOfSheets (wsV RX4 173 RX2 yX2_worth wsX2_worth) := goodIn_app (goodIn_of _ (by decide +kernel)) ggX4_worthOfSheets_X2_worth
theorem dX4_worthOfSheets_0 : decode cX4_worthOfSheets 0 = .ok (.iconst 0, 1) := by decide +kernel
theorem dX4_worthOfSheets_1 : decode cX4_worthOfSheets 1 = .ok (.istore_n 1, 1) := by decide +kernel
theorem dX4_worthOfSheets_2 : decode cX4_worthOfSheets 2 = .ok (.iconst 0, 1) := by decide +kernel
theorem dX4_worthOfSheets_3 : decode cX4_worthOfSheets 3 = .ok (.istore_n 2, 1) := by decide +kernel
theorem dX4_worthOfSheets_4 : decode cX4_worthOfSheets 4 = .ok (.iload_n 2, 1) := by decide +kernel
theorem dX4_worthOfSheets_5 : decode cX4_worthOfSheets 5 = .ok (.aload_n 0, 1) := by decide +kernel
theorem dX4_worthOfSheets_6 : decode cX4_worthOfSheets 6 = .ok (.getfield 88, 3) := by decide +kernel
theorem dX4_worthOfSheets_9 : decode cX4_worthOfSheets 9 = .ok (.if_icmp .ge 21, 3) := by decide +kernel
theorem dX4_worthOfSheets_12 : decode cX4_worthOfSheets 12 = .ok (.iload_n 1, 1) := by decide +kernel
theorem dX4_worthOfSheets_13 : decode cX4_worthOfSheets 13 = .ok (.aload_n 0, 1) := by decide +kernel
theorem dX4_worthOfSheets_14 : decode cX4_worthOfSheets 14 = .ok (.getfield 29, 3) := by decide +kernel
theorem dX4_worthOfSheets_17 : decode cX4_worthOfSheets 17 = .ok (.iload_n 2, 1) := by decide +kernel
theorem dX4_worthOfSheets_18 : decode cX4_worthOfSheets 18 = .ok (.aaload, 1) := by decide +kernel
theorem dX4_worthOfSheets_19 : decode cX4_worthOfSheets 19 = .ok (.invokevirtual 173, 3) := by decide +kernel
theorem dX4_worthOfSheets_22 : decode cX4_worthOfSheets 22 = .ok (.iadd, 1) := by decide +kernel
theorem dX4_worthOfSheets_23 : decode cX4_worthOfSheets 23 = .ok (.istore_n 1, 1) := by decide +kernel
theorem dX4_worthOfSheets_24 : decode cX4_worthOfSheets 24 = .ok (.iinc 2 1, 3) := by decide +kernel
theorem dX4_worthOfSheets_27 : decode cX4_worthOfSheets 27 = .ok (.goto (-23), 3) := by decide +kernel
theorem dX4_worthOfSheets_30 : decode cX4_worthOfSheets 30 = .ok (.iload_n 1, 1) := by decide +kernel
theorem dX4_worthOfSheets_31 : decode cX4_worthOfSheets 31 = .ok (.ireturn, 1) := by decide +kernel
set_option maxRecDepth 20000 in
theorem ggX4_stampsWith_X2_leftWith : GoodIn wsX4_stampsWith wsX2_leftWith := goodIn_r _ [7, 8, 9, 10, 6, 11, 12, 13, 19, 20] (by decide +kernel) (by decide +kernel)
set_option maxRecDepth 20000 in
theorem gX4_stampsWith_X2_leftWith : GoodIn wsX4_stampsWith (wsV RX4 176 RX2 yX2_leftWith wsX2_leftWith) := goodIn_app (goodIn_of _ (by decide +kernel)) ggX4_stampsWith_X2_leftWith
theorem dX4_stampsWith_0 : decode cX4_stampsWith 0 = .ok (.iconst 0, 1) := by decide +kernel
theorem dX4_stampsWith_1 : decode cX4_stampsWith 1 = .ok (.istore_n 2, 1) := by decide +kernel
theorem dX4_stampsWith_2 : decode cX4_stampsWith 2 = .ok (.iconst 0, 1) := by decide +kernel
theorem dX4_stampsWith_3 : decode cX4_stampsWith 3 = .ok (.istore_n 3, 1) := by decide +kernel
theorem dX4_stampsWith_4 : decode cX4_stampsWith 4 = .ok (.iload_n 3, 1) := by decide +kernel
theorem dX4_stampsWith_5 : decode cX4_stampsWith 5 = .ok (.aload_n 0, 1) := by decide +kernel
theorem dX4_stampsWith_6 : decode cX4_stampsWith 6 = .ok (.getfield 88, 3) := by decide +kernel
theorem dX4_stampsWith_9 : decode cX4_stampsWith 9 = .ok (.if_icmp .ge 22, 3) := by decide +kernel
theorem dX4_stampsWith_12 : decode cX4_stampsWith 12 = .ok (.iload_n 2, 1) := by decide +kernel
theorem dX4_stampsWith_13 : decode cX4_stampsWith 13 = .ok (.aload_n 0, 1) := by decide +kernel
theorem dX4_stampsWith_14 : decode cX4_stampsWith 14 = .ok (.getfield 29, 3) := by decide +kernel
theorem dX4_stampsWith_17 : decode cX4_stampsWith 17 = .ok (.iload_n 3, 1) := by decide +kernel
theorem dX4_stampsWith_18 : decode cX4_stampsWith 18 = .ok (.aaload, 1) := by decide +kernel
theorem dX4_stampsWith_19 : decode cX4_stampsWith 19 = .ok (.iload_n 1, 1) := by decide +kernel
theorem dX4_stampsWith_20 : decode cX4_stampsWith 20 = .ok (.invokevirtual 176, 3) := by decide +kernel
theorem dX4_stampsWith_23 : decode cX4_stampsWith 23 = .ok (.iadd, 1) := by decide +kernel
theorem dX4_stampsWith_24 : decode cX4_stampsWith 24 = .ok (.istore_n 2, 1) := by decide +kernel
theorem dX4_stampsWith_25 : decode cX4_stampsWith 25 = .ok (.iinc 3 1, 3) := by decide +kernel
theorem dX4_stampsWith_28 : decode cX4_stampsWith 28 = .ok (.goto (-24), 3) := by decide +kernel
theorem dX4_stampsWith_31 : decode cX4_stampsWith 31 = .ok (.iload_n 2, 1) := by decide +kernel
theorem dX4_stampsWith_32 : decode cX4_stampsWith 32 = .ok (.ireturn, 1) := by decide +kernel
theorem dX5_init_0 : decode cX5_init 0 = .ok (.aload_n 0, 1) := by decide +kernel
theorem dX5_init_1 : decode cX5_init 1 = .ok (.invokespecial 1, 3) := by decide +kernel
theorem dX5_init_4 : decode cX5_init 4 = .ok (.aload_n 0, 1) := by decide +kernel
theorem dX5_init_5 : decode cX5_init 5 = .ok (.bipush 20, 2) := by decide +kernel
theorem dX5_init_7 : decode cX5_init 7 = .ok (.putfield 7, 3) := by decide +kernel
theorem dX5_init_10 : decode cX5_init 10 = .ok (.aload_n 0, 1) := by decide +kernel
theorem dX5_init_11 : decode cX5_init 11 = .ok (.iconst 1, 1) := by decide +kernel
theorem dX5_init_12 : decode cX5_init 12 = .ok (.putfield 13, 3) := by decide +kernel
theorem dX5_init_15 : decode cX5_init 15 = .ok (.aload_n 0, 1) := by decide +kernel
theorem dX5_init_16 : decode cX5_init 16 = .ok (.bipush 7, 2) := by decide +kernel
theorem dX5_init_18 : decode cX5_init 18 = .ok (.newarray .int, 2) := by decide +kernel
theorem dX5_init_20 : decode cX5_init 20 = .ok (.dup, 1) := by decide +kernel
theorem dX5_init_21 : decode cX5_init 21 = .ok (.iconst 0, 1) := by decide +kernel
theorem dX5_init_22 : decode cX5_init 22 = .ok (.sipush 200, 3) := by decide +kernel
theorem dX5_init_25 : decode cX5_init 25 = .ok (.iastore, 1) := by decide +kernel
theorem dX5_init_26 : decode cX5_init 26 = .ok (.dup, 1) := by decide +kernel
theorem dX5_init_27 : decode cX5_init 27 = .ok (.iconst 1, 1) := by decide +kernel
theorem dX5_init_28 : decode cX5_init 28 = .ok (.sipush 200, 3) := by decide +kernel
theorem dX5_init_31 : decode cX5_init 31 = .ok (.iastore, 1) := by decide +kernel
theorem dX5_init_32 : decode cX5_init 32 = .ok (.dup, 1) := by decide +kernel
theorem dX5_init_33 : decode cX5_init 33 = .ok (.iconst 2, 1) := by decide +kernel
theorem dX5_init_34 : decode cX5_init 34 = .ok (.sipush 200, 3) := by decide +kernel
theorem dX5_init_37 : decode cX5_init 37 = .ok (.iastore, 1) := by decide +kernel
theorem dX5_init_38 : decode cX5_init 38 = .ok (.dup, 1) := by decide +kernel
theorem dX5_init_39 : decode cX5_init 39 = .ok (.iconst 3, 1) := by decide +kernel
theorem dX5_init_40 : decode cX5_init 40 = .ok (.sipush 200, 3) := by decide +kernel
theorem dX5_init_43 : decode cX5_init 43 = .ok (.iastore, 1) := by decide +kernel
theorem dX5_init_44 : decode cX5_init 44 = .ok (.dup, 1) := by decide +kernel
theorem dX5_init_45 : decode cX5_init 45 = .ok (.iconst 4, 1) := by decide +kernel
theorem dX5_init_46 : decode cX5_init 46 = .ok (.sipush 200, 3) := by decide +kernel
theorem dX5_init_49 : decode cX5_init 49 = .ok (.iastore, 1) := by decide +kernel
theorem dX5_init_50 : decode cX5_init 50 = .ok (.dup, 1) := by decide +kernel
theorem dX5_init_51 : decode cX5_init 51 = .ok (.iconst 5, 1) := by decide +kernel
theorem dX5_init_52 : decode cX5_init 52 = .ok (.sipush 200, 3) := by decide +kernel
theorem dX5_init_55 : decode cX5_init 55 = .ok (.iastore, 1) := by decide +kernel
theorem dX5_init_56 : decode cX5_init 56 = .ok (.dup, 1) := by decide +kernel
theorem dX5_init_57 : decode cX5_init 57 = .ok (.bipush 6, 2) := by decide +kernel
theorem dX5_init_59 : decode cX5_init 59 = .ok (.sipush 200, 3) := by decide +kernel
theorem dX5_init_62 : decode cX5_init 62 = .ok (.iastore, 1) := by decide +kernel
theorem dX5_init_63 : decode cX5_init 63 = .ok (.putfield 16, 3) := by decide +kernel
theorem dX5_init_66 : decode cX5_init 66 = .ok (.aload_n 0, 1) := by decide +kernel
theorem dX5_init_67 : decode cX5_init 67 = .ok (.bipush 7, 2) := by decide +kernel
theorem dX5_init_69 : decode cX5_init 69 = .ok (.newarray .int, 2) := by decide +kernel
theorem dX5_init_71 : decode cX5_init 71 = .ok (.putfield 20, 3) := by decide +kernel
theorem dX5_init_74 : decode cX5_init 74 = .ok (.aload_n 0, 1) := by decide +kernel
theorem dX5_init_75 : decode cX5_init 75 = .ok (.bipush 7, 2) := by decide +kernel
theorem dX5_init_77 : decode cX5_init 77 = .ok (.newarray .boolean, 2) := by decide +kernel
theorem dX5_init_79 : decode cX5_init 79 = .ok (.putfield 23, 3) := by decide +kernel
theorem dX5_init_82 : decode cX5_init 82 = .ok (.aload_n 0, 1) := by decide +kernel
theorem dX5_init_83 : decode cX5_init 83 = .ok (.iconst 5, 1) := by decide +kernel
theorem dX5_init_84 : decode cX5_init 84 = .ok (.bipush 6, 2) := by decide +kernel
theorem dX5_init_86 : decode cX5_init 86 = .ok (.multianewarray 27 2, 4) := by decide +kernel
theorem dX5_init_90 : decode cX5_init 90 = .ok (.putfield 29, 3) := by decide +kernel
theorem dX5_init_93 : decode cX5_init 93 = .ok (.aload_n 0, 1) := by decide +kernel
theorem dX5_init_94 : decode cX5_init 94 = .ok (.iconst 0, 1) := by decide +kernel
theorem dX5_init_95 : decode cX5_init 95 = .ok (.anewarray 32, 3) := by decide +kernel
theorem dX5_init_98 : decode cX5_init 98 = .ok (.putfield 34, 3) := by decide +kernel
theorem dX5_init_101 : decode cX5_init 101 = .ok (.aload_n 0, 1) := by decide +kernel
theorem dX5_init_102 : decode cX5_init 102 = .ok (.iconst 0, 1) := by decide +kernel
theorem dX5_init_103 : decode cX5_init 103 = .ok (.anewarray 27, 3) := by decide +kernel
theorem dX5_init_106 : decode cX5_init 106 = .ok (.putfield 38, 3) := by decide +kernel
theorem dX5_init_109 : decode cX5_init 109 = .ok (.return_, 1) := by decide +kernel
theorem dX5_sheet_0 : decode cX5_sheet 0 = .ok (.iconst 5, 1) := by decide +kernel
theorem dX5_sheet_1 : decode cX5_sheet 1 = .ok (.bipush 6, 2) := by decide +kernel
theorem dX5_sheet_3 : decode cX5_sheet 3 = .ok (.multianewarray 32 2, 4) := by decide +kernel
theorem dX5_sheet_7 : decode cX5_sheet 7 = .ok (.astore_n 1, 1) := by decide +kernel
theorem dX5_sheet_8 : decode cX5_sheet 8 = .ok (.iconst 0, 1) := by decide +kernel
theorem dX5_sheet_9 : decode cX5_sheet 9 = .ok (.istore_n 2, 1) := by decide +kernel
theorem dX5_sheet_10 : decode cX5_sheet 10 = .ok (.iload_n 2, 1) := by decide +kernel
theorem dX5_sheet_11 : decode cX5_sheet 11 = .ok (.iconst 5, 1) := by decide +kernel
theorem dX5_sheet_12 : decode cX5_sheet 12 = .ok (.if_icmp .ge 210, 3) := by decide +kernel
theorem dX5_sheet_15 : decode cX5_sheet 15 = .ok (.aload_n 0, 1) := by decide +kernel
theorem dX5_sheet_16 : decode cX5_sheet 16 = .ok (.dup, 1) := by decide +kernel
theorem dX5_sheet_17 : decode cX5_sheet 17 = .ok (.getfield 46, 3) := by decide +kernel
theorem dX5_sheet_20 : decode cX5_sheet 20 = .ok (.aload_n 0, 1) := by decide +kernel
theorem dX5_sheet_21 : decode cX5_sheet 21 = .ok (.getfield 7, 3) := by decide +kernel
theorem dX5_sheet_24 : decode cX5_sheet 24 = .ok (.bipush 20, 2) := by decide +kernel
theorem dX5_sheet_26 : decode cX5_sheet 26 = .ok (.isub, 1) := by decide +kernel
theorem dX5_sheet_27 : decode cX5_sheet 27 = .ok (.iadd, 1) := by decide +kernel
theorem dX5_sheet_28 : decode cX5_sheet 28 = .ok (.putfield 46, 3) := by decide +kernel
theorem dX5_sheet_31 : decode cX5_sheet 31 = .ok (.iconst 0, 1) := by decide +kernel
theorem dX5_sheet_32 : decode cX5_sheet 32 = .ok (.istore_n 3, 1) := by decide +kernel
theorem dX5_sheet_33 : decode cX5_sheet 33 = .ok (.iload_n 3, 1) := by decide +kernel
theorem dX5_sheet_34 : decode cX5_sheet 34 = .ok (.bipush 6, 2) := by decide +kernel
theorem dX5_sheet_36 : decode cX5_sheet 36 = .ok (.if_icmp .ge 98, 3) := by decide +kernel
theorem dX5_sheet_39 : decode cX5_sheet 39 = .ok (.aload_n 0, 1) := by decide +kernel
theorem dX5_sheet_40 : decode cX5_sheet 40 = .ok (.getfield 46, 3) := by decide +kernel
theorem dX5_sheet_43 : decode cX5_sheet 43 = .ok (.bipush 6, 2) := by decide +kernel
theorem dX5_sheet_45 : decode cX5_sheet 45 = .ok (.if_icmp .gt 12, 3) := by decide +kernel
theorem dX5_sheet_48 : decode cX5_sheet 48 = .ok (.aload_n 0, 1) := by decide +kernel
theorem dX5_sheet_49 : decode cX5_sheet 49 = .ok (.getfield 46, 3) := by decide +kernel
theorem dX5_sheet_52 : decode cX5_sheet 52 = .ok (.bipush (-6), 2) := by decide +kernel
theorem dX5_sheet_54 : decode cX5_sheet 54 = .ok (.if_icmp .ge 7, 3) := by decide +kernel
theorem dX5_sheet_57 : decode cX5_sheet 57 = .ok (.iconst 1, 1) := by decide +kernel
theorem dX5_sheet_58 : decode cX5_sheet 58 = .ok (.goto 4, 3) := by decide +kernel
theorem dX5_sheet_61 : decode cX5_sheet 61 = .ok (.iconst 0, 1) := by decide +kernel
theorem dX5_sheet_62 : decode cX5_sheet 62 = .ok (.istore 4, 2) := by decide +kernel
theorem dX5_sheet_64 : decode cX5_sheet 64 = .ok (.aload_n 0, 1) := by decide +kernel
theorem dX5_sheet_65 : decode cX5_sheet 65 = .ok (.getfield 23, 3) := by decide +kernel
theorem dX5_sheet_68 : decode cX5_sheet 68 = .ok (.iload_n 3, 1) := by decide +kernel
theorem dX5_sheet_69 : decode cX5_sheet 69 = .ok (.baload, 1) := by decide +kernel
theorem dX5_sheet_70 : decode cX5_sheet 70 = .ok (.ifCond .eq 6, 3) := by decide +kernel
theorem dX5_sheet_73 : decode cX5_sheet 73 = .ok (.iinc 4 2, 3) := by decide +kernel
theorem dX5_sheet_76 : decode cX5_sheet 76 = .ok (.aload_n 0, 1) := by decide +kernel
theorem dX5_sheet_77 : decode cX5_sheet 77 = .ok (.getfield 23, 3) := by decide +kernel
theorem dX5_sheet_80 : decode cX5_sheet 80 = .ok (.iload_n 3, 1) := by decide +kernel
theorem dX5_sheet_81 : decode cX5_sheet 81 = .ok (.iconst 1, 1) := by decide +kernel
theorem dX5_sheet_82 : decode cX5_sheet 82 = .ok (.iadd, 1) := by decide +kernel
theorem dX5_sheet_83 : decode cX5_sheet 83 = .ok (.baload, 1) := by decide +kernel
theorem dX5_sheet_84 : decode cX5_sheet 84 = .ok (.ifCond .eq 6, 3) := by decide +kernel
theorem dX5_sheet_87 : decode cX5_sheet 87 = .ok (.iinc 4 4, 3) := by decide +kernel
theorem dX5_sheet_90 : decode cX5_sheet 90 = .ok (.aload_n 0, 1) := by decide +kernel
theorem dX5_sheet_91 : decode cX5_sheet 91 = .ok (.getfield 29, 3) := by decide +kernel
theorem dX5_sheet_94 : decode cX5_sheet 94 = .ok (.iload_n 2, 1) := by decide +kernel
theorem dX5_sheet_95 : decode cX5_sheet 95 = .ok (.aaload, 1) := by decide +kernel
theorem dX5_sheet_96 : decode cX5_sheet 96 = .ok (.iload_n 3, 1) := by decide +kernel
theorem dX5_sheet_97 : decode cX5_sheet 97 = .ok (.baload, 1) := by decide +kernel
theorem dX5_sheet_98 : decode cX5_sheet 98 = .ok (.ifCond .eq 6, 3) := by decide +kernel
theorem dX5_sheet_101 : decode cX5_sheet 101 = .ok (.iinc 4 8, 3) := by decide +kernel
theorem dX5_sheet_104 : decode cX5_sheet 104 = .ok (.aload_n 0, 1) := by decide +kernel
theorem dX5_sheet_105 : decode cX5_sheet 105 = .ok (.getfield 49, 3) := by decide +kernel
theorem dX5_sheet_108 : decode cX5_sheet 108 = .ok (.iload_n 3, 1) := by decide +kernel
theorem dX5_sheet_109 : decode cX5_sheet 109 = .ok (.iadd, 1) := by decide +kernel
theorem dX5_sheet_110 : decode cX5_sheet 110 = .ok (.aload_n 0, 1) := by decide +kernel
theorem dX5_sheet_111 : decode cX5_sheet 111 = .ok (.getfield 13, 3) := by decide +kernel
theorem dX5_sheet_114 : decode cX5_sheet 114 = .ok (.irem, 1) := by decide +kernel
theorem dX5_sheet_115 : decode cX5_sheet 115 = .ok (.ifCond .eq 6, 3) := by decide +kernel
theorem dX5_sheet_118 : decode cX5_sheet 118 = .ok (.iinc 4 16, 3) := by decide +kernel
theorem dX5_sheet_121 : decode cX5_sheet 121 = .ok (.aload_n 1, 1) := by decide +kernel
theorem dX5_sheet_122 : decode cX5_sheet 122 = .ok (.iload_n 2, 1) := by decide +kernel
theorem dX5_sheet_123 : decode cX5_sheet 123 = .ok (.aaload, 1) := by decide +kernel
theorem dX5_sheet_124 : decode cX5_sheet 124 = .ok (.iload_n 3, 1) := by decide +kernel
theorem dX5_sheet_125 : decode cX5_sheet 125 = .ok (.iload 4, 2) := by decide +kernel
theorem dX5_sheet_127 : decode cX5_sheet 127 = .ok (.iastore, 1) := by decide +kernel
theorem dX5_sheet_128 : decode cX5_sheet 128 = .ok (.iinc 3 1, 3) := by decide +kernel
theorem dX5_sheet_131 : decode cX5_sheet 131 = .ok (.goto (-98), 3) := by decide +kernel
theorem dX5_sheet_134 : decode cX5_sheet 134 = .ok (.iconst 0, 1) := by decide +kernel
theorem dX5_sheet_135 : decode cX5_sheet 135 = .ok (.istore_n 3, 1) := by decide +kernel
theorem dX5_sheet_136 : decode cX5_sheet 136 = .ok (.iload_n 3, 1) := by decide +kernel
theorem dX5_sheet_137 : decode cX5_sheet 137 = .ok (.bipush 7, 2) := by decide +kernel
theorem dX5_sheet_139 : decode cX5_sheet 139 = .ok (.if_icmp .ge 57, 3) := by decide +kernel
theorem dX5_sheet_142 : decode cX5_sheet 142 = .ok (.aload_n 0, 1) := by decide +kernel
theorem dX5_sheet_143 : decode cX5_sheet 143 = .ok (.getfield 23, 3) := by decide +kernel
theorem dX5_sheet_146 : decode cX5_sheet 146 = .ok (.iload_n 3, 1) := by decide +kernel
theorem dX5_sheet_147 : decode cX5_sheet 147 = .ok (.baload, 1) := by decide +kernel
theorem dX5_sheet_148 : decode cX5_sheet 148 = .ok (.ifCond .eq 6, 3) := by decide +kernel
theorem dX5_sheet_151 : decode cX5_sheet 151 = .ok (.goto 39, 3) := by decide +kernel
theorem dX5_sheet_154 : decode cX5_sheet 154 = .ok (.aload_n 0, 1) := by decide +kernel
theorem dX5_sheet_155 : decode cX5_sheet 155 = .ok (.getfield 20, 3) := by decide +kernel
theorem dX5_sheet_158 : decode cX5_sheet 158 = .ok (.iload_n 3, 1) := by decide +kernel
theorem dX5_sheet_159 : decode cX5_sheet 159 = .ok (.dup2, 1) := by decide +kernel
theorem dX5_sheet_160 : decode cX5_sheet 160 = .ok (.iaload, 1) := by decide +kernel
theorem dX5_sheet_161 : decode cX5_sheet 161 = .ok (.iconst 1, 1) := by decide +kernel
theorem dX5_sheet_162 : decode cX5_sheet 162 = .ok (.iadd, 1) := by decide +kernel
theorem dX5_sheet_163 : decode cX5_sheet 163 = .ok (.iastore, 1) := by decide +kernel
theorem dX5_sheet_164 : decode cX5_sheet 164 = .ok (.aload_n 0, 1) := by decide +kernel
theorem dX5_sheet_165 : decode cX5_sheet 165 = .ok (.getfield 23, 3) := by decide +kernel
theorem dX5_sheet_168 : decode cX5_sheet 168 = .ok (.iload_n 3, 1) := by decide +kernel
theorem dX5_sheet_169 : decode cX5_sheet 169 = .ok (.aload_n 0, 1) := by decide +kernel
theorem dX5_sheet_170 : decode cX5_sheet 170 = .ok (.getfield 20, 3) := by decide +kernel
theorem dX5_sheet_173 : decode cX5_sheet 173 = .ok (.iload_n 3, 1) := by decide +kernel
theorem dX5_sheet_174 : decode cX5_sheet 174 = .ok (.iaload, 1) := by decide +kernel
theorem dX5_sheet_175 : decode cX5_sheet 175 = .ok (.aload_n 0, 1) := by decide +kernel
theorem dX5_sheet_176 : decode cX5_sheet 176 = .ok (.getfield 16, 3) := by decide +kernel
theorem dX5_sheet_179 : decode cX5_sheet 179 = .ok (.iload_n 3, 1) := by decide +kernel
theorem dX5_sheet_180 : decode cX5_sheet 180 = .ok (.iaload, 1) := by decide +kernel
theorem dX5_sheet_181 : decode cX5_sheet 181 = .ok (.if_icmp .le 7, 3) := by decide +kernel
theorem dX5_sheet_184 : decode cX5_sheet 184 = .ok (.iconst 1, 1) := by decide +kernel
theorem dX5_sheet_185 : decode cX5_sheet 185 = .ok (.goto 4, 3) := by decide +kernel
theorem dX5_sheet_188 : decode cX5_sheet 188 = .ok (.iconst 0, 1) := by decide +kernel
theorem dX5_sheet_189 : decode cX5_sheet 189 = .ok (.bastore, 1) := by decide +kernel
theorem dX5_sheet_190 : decode cX5_sheet 190 = .ok (.iinc 3 1, 3) := by decide +kernel
theorem dX5_sheet_193 : decode cX5_sheet 193 = .ok (.goto (-57), 3) := by decide +kernel
theorem dX5_sheet_196 : decode cX5_sheet 196 = .ok (.aload_n 0, 1) := by decide +kernel
theorem dX5_sheet_197 : decode cX5_sheet 197 = .ok (.dup, 1) := by decide +kernel
theorem dX5_sheet_198 : decode cX5_sheet 198 = .ok (.getfield 52, 3) := by decide +kernel
theorem dX5_sheet_201 : decode cX5_sheet 201 = .ok (.iconst 1, 1) := by decide +kernel
theorem dX5_sheet_202 : decode cX5_sheet 202 = .ok (.isub, 1) := by decide +kernel
theorem dX5_sheet_203 : decode cX5_sheet 203 = .ok (.putfield 52, 3) := by decide +kernel
theorem dX5_sheet_206 : decode cX5_sheet 206 = .ok (.aload_n 0, 1) := by decide +kernel
theorem dX5_sheet_207 : decode cX5_sheet 207 = .ok (.dup, 1) := by decide +kernel
theorem dX5_sheet_208 : decode cX5_sheet 208 = .ok (.getfield 49, 3) := by decide +kernel
theorem dX5_sheet_211 : decode cX5_sheet 211 = .ok (.iconst 1, 1) := by decide +kernel
theorem dX5_sheet_212 : decode cX5_sheet 212 = .ok (.iadd, 1) := by decide +kernel
theorem dX5_sheet_213 : decode cX5_sheet 213 = .ok (.putfield 49, 3) := by decide +kernel
theorem dX5_sheet_216 : decode cX5_sheet 216 = .ok (.iinc 2 1, 3) := by decide +kernel
theorem dX5_sheet_219 : decode cX5_sheet 219 = .ok (.goto (-209), 3) := by decide +kernel
theorem dX5_sheet_222 : decode cX5_sheet 222 = .ok (.aload_n 0, 1) := by decide +kernel
theorem dX5_sheet_223 : decode cX5_sheet 223 = .ok (.dup, 1) := by decide +kernel
theorem dX5_sheet_224 : decode cX5_sheet 224 = .ok (.getfield 7, 3) := by decide +kernel
theorem dX5_sheet_227 : decode cX5_sheet 227 = .ok (.aload_n 0, 1) := by decide +kernel
theorem dX5_sheet_228 : decode cX5_sheet 228 = .ok (.getfield 43, 3) := by decide +kernel
theorem dX5_sheet_231 : decode cX5_sheet 231 = .ok (.iadd, 1) := by decide +kernel
theorem dX5_sheet_232 : decode cX5_sheet 232 = .ok (.putfield 7, 3) := by decide +kernel
theorem dX5_sheet_235 : decode cX5_sheet 235 = .ok (.aload_n 0, 1) := by decide +kernel
theorem dX5_sheet_236 : decode cX5_sheet 236 = .ok (.getfield 7, 3) := by decide +kernel
theorem dX5_sheet_239 : decode cX5_sheet 239 = .ok (.bipush 10, 2) := by decide +kernel
theorem dX5_sheet_241 : decode cX5_sheet 241 = .ok (.if_icmp .ge 9, 3) := by decide +kernel
theorem dX5_sheet_244 : decode cX5_sheet 244 = .ok (.aload_n 0, 1) := by decide +kernel
theorem dX5_sheet_245 : decode cX5_sheet 245 = .ok (.bipush 10, 2) := by decide +kernel
theorem dX5_sheet_247 : decode cX5_sheet 247 = .ok (.putfield 7, 3) := by decide +kernel
theorem dX5_sheet_250 : decode cX5_sheet 250 = .ok (.aload_n 0, 1) := by decide +kernel
theorem dX5_sheet_251 : decode cX5_sheet 251 = .ok (.getfield 7, 3) := by decide +kernel
theorem dX5_sheet_254 : decode cX5_sheet 254 = .ok (.bipush 30, 2) := by decide +kernel
theorem dX5_sheet_256 : decode cX5_sheet 256 = .ok (.if_icmp .le 9, 3) := by decide +kernel
theorem dX5_sheet_259 : decode cX5_sheet 259 = .ok (.aload_n 0, 1) := by decide +kernel
theorem dX5_sheet_260 : decode cX5_sheet 260 = .ok (.bipush 30, 2) := by decide +kernel
theorem dX5_sheet_262 : decode cX5_sheet 262 = .ok (.putfield 7, 3) := by decide +kernel
theorem dX5_sheet_265 : decode cX5_sheet 265 = .ok (.aload_n 1, 1) := by decide +kernel
theorem dX5_sheet_266 : decode cX5_sheet 266 = .ok (.areturn, 1) := by decide +kernel
set_option maxRecDepth 20000 in
theorem ggX5_run_X5_sheet : GoodIn wsX5_run wsX5_sheet := goodIn_r _ [10, 2, 11, 12, 13, 14, 15, 16, 17, 18, 19, 20, 21, 22, 23, 24, 25, 26, 27, 28, 29, 30, 31, 32, 33] (by decide +kernel) (by decide +kernel)
set_option maxRecDepth 20000 in
theorem gX5_run_X5_sheet : GoodIn wsX5_run (wsV RX5 55 RX5 yX5_sheet wsX5_sheet) := goodIn_app (goodIn_of _ (by decide +kernel)) ggX5_run_X5_sheet
theorem dX5_run_0 : decode cX5_run 0 = .ok (.aload_n 0, 1) := by decide +kernel
theorem dX5_run_1 : decode cX5_run 1 = .ok (.getfield 34, 3) := by decide +kernel
theorem dX5_run_4 : decode cX5_run 4 = .ok (.arraylength, 1) := by decide +kernel
theorem dX5_run_5 : decode cX5_run 5 = .ok (.istore_n 1, 1) := by decide +kernel
theorem dX5_run_6 : decode cX5_run 6 = .ok (.iload_n 1, 1) := by decide +kernel
theorem dX5_run_7 : decode cX5_run 7 = .ok (.iconst 1, 1) := by decide +kernel
theorem dX5_run_8 : decode cX5_run 8 = .ok (.iadd, 1) := by decide +kernel
theorem dX5_run_9 : decode cX5_run 9 = .ok (.anewarray 32, 3) := by decide +kernel
theorem dX5_run_12 : decode cX5_run 12 = .ok (.astore_n 2, 1) := by decide +kernel
theorem dX5_run_13 : decode cX5_run 13 = .ok (.iload_n 1, 1) := by decide +kernel
theorem dX5_run_14 : decode cX5_run 14 = .ok (.iconst 1, 1) := by decide +kernel
theorem dX5_run_15 : decode cX5_run 15 = .ok (.iadd, 1) := by decide +kernel
theorem dX5_run_16 : decode cX5_run 16 = .ok (.anewarray 27, 3) := by decide +kernel
theorem dX5_run_19 : decode cX5_run 19 = .ok (.astore_n 3, 1) := by decide +kernel
theorem dX5_run_20 : decode cX5_run 20 = .ok (.iconst 0, 1) := by decide +kernel
theorem dX5_run_21 : decode cX5_run 21 = .ok (.istore 4, 2) := by decide +kernel
theorem dX5_run_23 : decode cX5_run 23 = .ok (.iload 4, 2) := by decide +kernel
theorem dX5_run_25 : decode cX5_run 25 = .ok (.iload_n 1, 1) := by decide +kernel
theorem dX5_run_26 : decode cX5_run 26 = .ok (.if_icmp .ge 31, 3) := by decide +kernel
theorem dX5_run_29 : decode cX5_run 29 = .ok (.aload_n 2, 1) := by decide +kernel
theorem dX5_run_30 : decode cX5_run 30 = .ok (.iload 4, 2) := by decide +kernel
theorem dX5_run_32 : decode cX5_run 32 = .ok (.aload_n 0, 1) := by decide +kernel
theorem dX5_run_33 : decode cX5_run 33 = .ok (.getfield 34, 3) := by decide +kernel
theorem dX5_run_36 : decode cX5_run 36 = .ok (.iload 4, 2) := by decide +kernel
theorem dX5_run_38 : decode cX5_run 38 = .ok (.aaload, 1) := by decide +kernel
theorem dX5_run_39 : decode cX5_run 39 = .ok (.aastore, 1) := by decide +kernel
theorem dX5_run_40 : decode cX5_run 40 = .ok (.aload_n 3, 1) := by decide +kernel
theorem dX5_run_41 : decode cX5_run 41 = .ok (.iload 4, 2) := by decide +kernel
theorem dX5_run_43 : decode cX5_run 43 = .ok (.aload_n 0, 1) := by decide +kernel
theorem dX5_run_44 : decode cX5_run 44 = .ok (.getfield 38, 3) := by decide +kernel
theorem dX5_run_47 : decode cX5_run 47 = .ok (.iload 4, 2) := by decide +kernel
theorem dX5_run_49 : decode cX5_run 49 = .ok (.aaload, 1) := by decide +kernel
theorem dX5_run_50 : decode cX5_run 50 = .ok (.aastore, 1) := by decide +kernel
theorem dX5_run_51 : decode cX5_run 51 = .ok (.iinc 4 1, 3) := by decide +kernel
theorem dX5_run_54 : decode cX5_run 54 = .ok (.goto (-31), 3) := by decide +kernel
theorem dX5_run_57 : decode cX5_run 57 = .ok (.aload_n 2, 1) := by decide +kernel
theorem dX5_run_58 : decode cX5_run 58 = .ok (.iload_n 1, 1) := by decide +kernel
theorem dX5_run_59 : decode cX5_run 59 = .ok (.aload_n 0, 1) := by decide +kernel
theorem dX5_run_60 : decode cX5_run 60 = .ok (.invokevirtual 55, 3) := by decide +kernel
theorem dX5_run_63 : decode cX5_run 63 = .ok (.aastore, 1) := by decide +kernel
theorem dX5_run_64 : decode cX5_run 64 = .ok (.aload_n 3, 1) := by decide +kernel
theorem dX5_run_65 : decode cX5_run 65 = .ok (.iload_n 1, 1) := by decide +kernel
theorem dX5_run_66 : decode cX5_run 66 = .ok (.iconst 5, 1) := by decide +kernel
theorem dX5_run_67 : decode cX5_run 67 = .ok (.bipush 6, 2) := by decide +kernel
theorem dX5_run_69 : decode cX5_run 69 = .ok (.multianewarray 27 2, 4) := by decide +kernel
theorem dX5_run_73 : decode cX5_run 73 = .ok (.aastore, 1) := by decide +kernel
theorem dX5_run_74 : decode cX5_run 74 = .ok (.aload_n 0, 1) := by decide +kernel
theorem dX5_run_75 : decode cX5_run 75 = .ok (.aload_n 2, 1) := by decide +kernel
theorem dX5_run_76 : decode cX5_run 76 = .ok (.putfield 34, 3) := by decide +kernel
theorem dX5_run_79 : decode cX5_run 79 = .ok (.aload_n 0, 1) := by decide +kernel
theorem dX5_run_80 : decode cX5_run 80 = .ok (.aload_n 3, 1) := by decide +kernel
theorem dX5_run_81 : decode cX5_run 81 = .ok (.putfield 38, 3) := by decide +kernel
theorem dX5_run_84 : decode cX5_run 84 = .ok (.iload_n 1, 1) := by decide +kernel
theorem dX5_run_85 : decode cX5_run 85 = .ok (.ireturn, 1) := by decide +kernel
theorem dX5_worth_0 : decode cX5_worth 0 = .ok (.iload_n 1, 1) := by decide +kernel
theorem dX5_worth_1 : decode cX5_worth 1 = .ok (.ifCond .ne 10, 3) := by decide +kernel
theorem dX5_worth_4 : decode cX5_worth 4 = .ok (.iload_n 0, 1) := by decide +kernel
theorem dX5_worth_5 : decode cX5_worth 5 = .ok (.bipush 8, 2) := by decide +kernel
theorem dX5_worth_7 : decode cX5_worth 7 = .ok (.irem, 1) := by decide +kernel
theorem dX5_worth_8 : decode cX5_worth 8 = .ok (.ifCond .eq 5, 3) := by decide +kernel
theorem dX5_worth_11 : decode cX5_worth 11 = .ok (.iconst 0, 1) := by decide +kernel
theorem dX5_worth_12 : decode cX5_worth 12 = .ok (.ireturn, 1) := by decide +kernel
theorem dX5_worth_13 : decode cX5_worth 13 = .ok (.iload_n 0, 1) := by decide +kernel
theorem dX5_worth_14 : decode cX5_worth 14 = .ok (.ifCond .ne 7, 3) := by decide +kernel
theorem dX5_worth_17 : decode cX5_worth 17 = .ok (.iconst 1, 1) := by decide +kernel
theorem dX5_worth_18 : decode cX5_worth 18 = .ok (.goto 26, 3) := by decide +kernel
theorem dX5_worth_21 : decode cX5_worth 21 = .ok (.iload_n 0, 1) := by decide +kernel
theorem dX5_worth_22 : decode cX5_worth 22 = .ok (.bipush 8, 2) := by decide +kernel
theorem dX5_worth_24 : decode cX5_worth 24 = .ok (.if_icmp .ne 8, 3) := by decide +kernel
theorem dX5_worth_27 : decode cX5_worth 27 = .ok (.bipush 21, 2) := by decide +kernel
theorem dX5_worth_29 : decode cX5_worth 29 = .ok (.goto 15, 3) := by decide +kernel
theorem dX5_worth_32 : decode cX5_worth 32 = .ok (.iload_n 0, 1) := by decide +kernel
theorem dX5_worth_33 : decode cX5_worth 33 = .ok (.bipush 16, 2) := by decide +kernel
theorem dX5_worth_35 : decode cX5_worth 35 = .ok (.if_icmp .ne 7, 3) := by decide +kernel
theorem dX5_worth_38 : decode cX5_worth 38 = .ok (.iconst 5, 1) := by decide +kernel
theorem dX5_worth_39 : decode cX5_worth 39 = .ok (.goto 5, 3) := by decide +kernel
theorem dX5_worth_42 : decode cX5_worth 42 = .ok (.bipush 25, 2) := by decide +kernel
theorem dX5_worth_44 : decode cX5_worth 44 = .ok (.ireturn, 1) := by decide +kernel
set_option maxRecDepth 20000 in
theorem ggX5_told_X5_worth : GoodIn wsX5_told wsX5_worth := goodIn_r _ [11] (by decide +kernel) (by decide +kernel)
set_option maxRecDepth 20000 in
theorem gX5_told_X5_worth : GoodIn wsX5_told (va_wsS RX5 59 yX5_worth wsX5_worth) := goodIn_app (goodIn_of _ (by decide +kernel)) ggX5_told_X5_worth
theorem dX5_told_0 : decode cX5_told 0 = .ok (.iconst 0, 1) := by decide +kernel
theorem dX5_told_1 : decode cX5_told 1 = .ok (.istore_n 3, 1) := by decide +kernel
theorem dX5_told_2 : decode cX5_told 2 = .ok (.iconst 0, 1) := by decide +kernel
theorem dX5_told_3 : decode cX5_told 3 = .ok (.istore 4, 2) := by decide +kernel
theorem dX5_told_5 : decode cX5_told 5 = .ok (.iload 4, 2) := by decide +kernel
theorem dX5_told_7 : decode cX5_told 7 = .ok (.iconst 5, 1) := by decide +kernel
theorem dX5_told_8 : decode cX5_told 8 = .ok (.if_icmp .ge 199, 3) := by decide +kernel
theorem dX5_told_11 : decode cX5_told 11 = .ok (.iload_n 2, 1) := by decide +kernel
theorem dX5_told_12 : decode cX5_told 12 = .ok (.iconst 4, 1) := by decide +kernel
theorem dX5_told_13 : decode cX5_told 13 = .ok (.if_icmp .ne 19, 3) := by decide +kernel
theorem dX5_told_16 : decode cX5_told 16 = .ok (.iload_n 3, 1) := by decide +kernel
theorem dX5_told_17 : decode cX5_told 17 = .ok (.aload_n 0, 1) := by decide +kernel
theorem dX5_told_18 : decode cX5_told 18 = .ok (.getfield 34, 3) := by decide +kernel
theorem dX5_told_21 : decode cX5_told 21 = .ok (.iload_n 1, 1) := by decide +kernel
theorem dX5_told_22 : decode cX5_told 22 = .ok (.aaload, 1) := by decide +kernel
theorem dX5_told_23 : decode cX5_told 23 = .ok (.iload 4, 2) := by decide +kernel
theorem dX5_told_25 : decode cX5_told 25 = .ok (.aaload, 1) := by decide +kernel
theorem dX5_told_26 : decode cX5_told 26 = .ok (.iconst 0, 1) := by decide +kernel
theorem dX5_told_27 : decode cX5_told 27 = .ok (.iaload, 1) := by decide +kernel
theorem dX5_told_28 : decode cX5_told 28 = .ok (.iconst 2, 1) := by decide +kernel
theorem dX5_told_29 : decode cX5_told 29 = .ok (.irem, 1) := by decide +kernel
theorem dX5_told_30 : decode cX5_told 30 = .ok (.iadd, 1) := by decide +kernel
theorem dX5_told_31 : decode cX5_told 31 = .ok (.istore_n 3, 1) := by decide +kernel
theorem dX5_told_32 : decode cX5_told 32 = .ok (.iconst 0, 1) := by decide +kernel
theorem dX5_told_33 : decode cX5_told 33 = .ok (.istore 5, 2) := by decide +kernel
theorem dX5_told_35 : decode cX5_told 35 = .ok (.iload 5, 2) := by decide +kernel
theorem dX5_told_37 : decode cX5_told 37 = .ok (.bipush 6, 2) := by decide +kernel
theorem dX5_told_39 : decode cX5_told 39 = .ok (.if_icmp .ge 162, 3) := by decide +kernel
theorem dX5_told_42 : decode cX5_told 42 = .ok (.aload_n 0, 1) := by decide +kernel
theorem dX5_told_43 : decode cX5_told 43 = .ok (.getfield 38, 3) := by decide +kernel
theorem dX5_told_46 : decode cX5_told 46 = .ok (.iload_n 1, 1) := by decide +kernel
theorem dX5_told_47 : decode cX5_told 47 = .ok (.aaload, 1) := by decide +kernel
theorem dX5_told_48 : decode cX5_told 48 = .ok (.iload 4, 2) := by decide +kernel
theorem dX5_told_50 : decode cX5_told 50 = .ok (.aaload, 1) := by decide +kernel
theorem dX5_told_51 : decode cX5_told 51 = .ok (.iload 5, 2) := by decide +kernel
theorem dX5_told_53 : decode cX5_told 53 = .ok (.baload, 1) := by decide +kernel
theorem dX5_told_54 : decode cX5_told 54 = .ok (.istore 6, 2) := by decide +kernel
theorem dX5_told_56 : decode cX5_told 56 = .ok (.aload_n 0, 1) := by decide +kernel
theorem dX5_told_57 : decode cX5_told 57 = .ok (.getfield 34, 3) := by decide +kernel
theorem dX5_told_60 : decode cX5_told 60 = .ok (.iload_n 1, 1) := by decide +kernel
theorem dX5_told_61 : decode cX5_told 61 = .ok (.aaload, 1) := by decide +kernel
theorem dX5_told_62 : decode cX5_told 62 = .ok (.iload 4, 2) := by decide +kernel
theorem dX5_told_64 : decode cX5_told 64 = .ok (.aaload, 1) := by decide +kernel
theorem dX5_told_65 : decode cX5_told 65 = .ok (.iload 5, 2) := by decide +kernel
theorem dX5_told_67 : decode cX5_told 67 = .ok (.iaload, 1) := by decide +kernel
theorem dX5_told_68 : decode cX5_told 68 = .ok (.istore 7, 2) := by decide +kernel
theorem dX5_told_70 : decode cX5_told 70 = .ok (.iload_n 2, 1) := by decide +kernel
theorem dX5_told_71 : decode cX5_told 71 = .ok (.ifCond .ne 16, 3) := by decide +kernel
theorem dX5_told_74 : decode cX5_told 74 = .ok (.iload_n 3, 1) := by decide +kernel
theorem dX5_told_75 : decode cX5_told 75 = .ok (.iload 6, 2) := by decide +kernel
theorem dX5_told_77 : decode cX5_told 77 = .ok (.ifCond .eq 7, 3) := by decide +kernel
theorem dX5_told_80 : decode cX5_told 80 = .ok (.iconst 0, 1) := by decide +kernel
theorem dX5_told_81 : decode cX5_told 81 = .ok (.goto 4, 3) := by decide +kernel
theorem dX5_told_84 : decode cX5_told 84 = .ok (.iconst 1, 1) := by decide +kernel
theorem dX5_told_85 : decode cX5_told 85 = .ok (.iadd, 1) := by decide +kernel
theorem dX5_told_86 : decode cX5_told 86 = .ok (.istore_n 3, 1) := by decide +kernel
theorem dX5_told_87 : decode cX5_told 87 = .ok (.iload_n 2, 1) := by decide +kernel
theorem dX5_told_88 : decode cX5_told 88 = .ok (.iconst 1, 1) := by decide +kernel
theorem dX5_told_89 : decode cX5_told 89 = .ok (.if_icmp .ne 21, 3) := by decide +kernel
theorem dX5_told_92 : decode cX5_told 92 = .ok (.iload_n 3, 1) := by decide +kernel
theorem dX5_told_93 : decode cX5_told 93 = .ok (.iload 6, 2) := by decide +kernel
theorem dX5_told_95 : decode cX5_told 95 = .ok (.ifCond .ne 8, 3) := by decide +kernel
theorem dX5_told_98 : decode cX5_told 98 = .ok (.iload 7, 2) := by decide +kernel
theorem dX5_told_100 : decode cX5_told 100 = .ok (.ifCond .eq 7, 3) := by decide +kernel
theorem dX5_told_103 : decode cX5_told 103 = .ok (.iconst 0, 1) := by decide +kernel
theorem dX5_told_104 : decode cX5_told 104 = .ok (.goto 4, 3) := by decide +kernel
theorem dX5_told_107 : decode cX5_told 107 = .ok (.iconst 1, 1) := by decide +kernel
theorem dX5_told_108 : decode cX5_told 108 = .ok (.iadd, 1) := by decide +kernel
theorem dX5_told_109 : decode cX5_told 109 = .ok (.istore_n 3, 1) := by decide +kernel
theorem dX5_told_110 : decode cX5_told 110 = .ok (.iload_n 2, 1) := by decide +kernel
theorem dX5_told_111 : decode cX5_told 111 = .ok (.iconst 2, 1) := by decide +kernel
theorem dX5_told_112 : decode cX5_told 112 = .ok (.if_icmp .ne 13, 3) := by decide +kernel
theorem dX5_told_115 : decode cX5_told 115 = .ok (.iload_n 3, 1) := by decide +kernel
theorem dX5_told_116 : decode cX5_told 116 = .ok (.iload 7, 2) := by decide +kernel
theorem dX5_told_118 : decode cX5_told 118 = .ok (.iload 6, 2) := by decide +kernel
theorem dX5_told_120 : decode cX5_told 120 = .ok (.invokestatic 59, 3) := by decide +kernel
theorem dX5_told_123 : decode cX5_told 123 = .ok (.iadd, 1) := by decide +kernel
theorem dX5_told_124 : decode cX5_told 124 = .ok (.istore_n 3, 1) := by decide +kernel
theorem dX5_told_125 : decode cX5_told 125 = .ok (.iload_n 2, 1) := by decide +kernel
theorem dX5_told_126 : decode cX5_told 126 = .ok (.iconst 3, 1) := by decide +kernel
theorem dX5_told_127 : decode cX5_told 127 = .ok (.if_icmp .ne 68, 3) := by decide +kernel
theorem dX5_told_130 : decode cX5_told 130 = .ok (.iload 5, 2) := by decide +kernel
theorem dX5_told_132 : decode cX5_told 132 = .ok (.iconst 5, 1) := by decide +kernel
theorem dX5_told_133 : decode cX5_told 133 = .ok (.if_icmp .ge 62, 3) := by decide +kernel
theorem dX5_told_136 : decode cX5_told 136 = .ok (.iload 6, 2) := by decide +kernel
theorem dX5_told_138 : decode cX5_told 138 = .ok (.ifCond .ne 57, 3) := by decide +kernel
theorem dX5_told_141 : decode cX5_told 141 = .ok (.aload_n 0, 1) := by decide +kernel
theorem dX5_told_142 : decode cX5_told 142 = .ok (.getfield 38, 3) := by decide +kernel
theorem dX5_told_145 : decode cX5_told 145 = .ok (.iload_n 1, 1) := by decide +kernel
theorem dX5_told_146 : decode cX5_told 146 = .ok (.aaload, 1) := by decide +kernel
theorem dX5_told_147 : decode cX5_told 147 = .ok (.iload 4, 2) := by decide +kernel
theorem dX5_told_149 : decode cX5_told 149 = .ok (.aaload, 1) := by decide +kernel
theorem dX5_told_150 : decode cX5_told 150 = .ok (.iload 5, 2) := by decide +kernel
theorem dX5_told_152 : decode cX5_told 152 = .ok (.iconst 1, 1) := by decide +kernel
theorem dX5_told_153 : decode cX5_told 153 = .ok (.iadd, 1) := by decide +kernel
theorem dX5_told_154 : decode cX5_told 154 = .ok (.baload, 1) := by decide +kernel
theorem dX5_told_155 : decode cX5_told 155 = .ok (.ifCond .ne 40, 3) := by decide +kernel
theorem dX5_told_158 : decode cX5_told 158 = .ok (.iload_n 3, 1) := by decide +kernel
theorem dX5_told_159 : decode cX5_told 159 = .ok (.iload 7, 2) := by decide +kernel
theorem dX5_told_161 : decode cX5_told 161 = .ok (.bipush 8, 2) := by decide +kernel
theorem dX5_told_163 : decode cX5_told 163 = .ok (.idiv, 1) := by decide +kernel
theorem dX5_told_164 : decode cX5_told 164 = .ok (.iconst 2, 1) := by decide +kernel
theorem dX5_told_165 : decode cX5_told 165 = .ok (.irem, 1) := by decide +kernel
theorem dX5_told_166 : decode cX5_told 166 = .ok (.aload_n 0, 1) := by decide +kernel
theorem dX5_told_167 : decode cX5_told 167 = .ok (.getfield 34, 3) := by decide +kernel
theorem dX5_told_170 : decode cX5_told 170 = .ok (.iload_n 1, 1) := by decide +kernel
theorem dX5_told_171 : decode cX5_told 171 = .ok (.aaload, 1) := by decide +kernel
theorem dX5_told_172 : decode cX5_told 172 = .ok (.iload 4, 2) := by decide +kernel
theorem dX5_told_174 : decode cX5_told 174 = .ok (.aaload, 1) := by decide +kernel
theorem dX5_told_175 : decode cX5_told 175 = .ok (.iload 5, 2) := by decide +kernel
theorem dX5_told_177 : decode cX5_told 177 = .ok (.iconst 1, 1) := by decide +kernel
theorem dX5_told_178 : decode cX5_told 178 = .ok (.iadd, 1) := by decide +kernel
theorem dX5_told_179 : decode cX5_told 179 = .ok (.iaload, 1) := by decide +kernel
theorem dX5_told_180 : decode cX5_told 180 = .ok (.bipush 8, 2) := by decide +kernel
theorem dX5_told_182 : decode cX5_told 182 = .ok (.idiv, 1) := by decide +kernel
theorem dX5_told_183 : decode cX5_told 183 = .ok (.iconst 2, 1) := by decide +kernel
theorem dX5_told_184 : decode cX5_told 184 = .ok (.irem, 1) := by decide +kernel
theorem dX5_told_185 : decode cX5_told 185 = .ok (.if_icmp .eq 7, 3) := by decide +kernel
theorem dX5_told_188 : decode cX5_told 188 = .ok (.iconst 1, 1) := by decide +kernel
theorem dX5_told_189 : decode cX5_told 189 = .ok (.goto 4, 3) := by decide +kernel
theorem dX5_told_192 : decode cX5_told 192 = .ok (.iconst 0, 1) := by decide +kernel
theorem dX5_told_193 : decode cX5_told 193 = .ok (.iadd, 1) := by decide +kernel
theorem dX5_told_194 : decode cX5_told 194 = .ok (.istore_n 3, 1) := by decide +kernel
theorem dX5_told_195 : decode cX5_told 195 = .ok (.iinc 5 1, 3) := by decide +kernel
theorem dX5_told_198 : decode cX5_told 198 = .ok (.goto (-163), 3) := by decide +kernel
theorem dX5_told_201 : decode cX5_told 201 = .ok (.iinc 4 1, 3) := by decide +kernel
theorem dX5_told_204 : decode cX5_told 204 = .ok (.goto (-199), 3) := by decide +kernel
theorem dX5_told_207 : decode cX5_told 207 = .ok (.iload_n 2, 1) := by decide +kernel
theorem dX5_told_208 : decode cX5_told 208 = .ok (.iconst 5, 1) := by decide +kernel
theorem dX5_told_209 : decode cX5_told 209 = .ok (.if_icmp .ge 5, 3) := by decide +kernel
theorem dX5_told_212 : decode cX5_told 212 = .ok (.iload_n 3, 1) := by decide +kernel
theorem dX5_told_213 : decode cX5_told 213 = .ok (.ireturn, 1) := by decide +kernel
theorem dX5_told_214 : decode cX5_told 214 = .ok (.iconst 0, 1) := by decide +kernel
theorem dX5_told_215 : decode cX5_told 215 = .ok (.istore 4, 2) := by decide +kernel
theorem dX5_told_217 : decode cX5_told 217 = .ok (.iconst 0, 1) := by decide +kernel
theorem dX5_told_218 : decode cX5_told 218 = .ok (.istore 5, 2) := by decide +kernel
theorem dX5_told_220 : decode cX5_told 220 = .ok (.iload 5, 2) := by decide +kernel
theorem dX5_told_222 : decode cX5_told 222 = .ok (.iconst 5, 1) := by decide +kernel
theorem dX5_told_223 : decode cX5_told 223 = .ok (.if_icmp .ge 157, 3) := by decide +kernel
theorem dX5_told_226 : decode cX5_told 226 = .ok (.bipush 6, 2) := by decide +kernel
theorem dX5_told_228 : decode cX5_told 228 = .ok (.newarray .boolean, 2) := by decide +kernel
theorem dX5_told_230 : decode cX5_told 230 = .ok (.dup, 1) := by decide +kernel
theorem dX5_told_231 : decode cX5_told 231 = .ok (.iconst 0, 1) := by decide +kernel
theorem dX5_told_232 : decode cX5_told 232 = .ok (.iconst 1, 1) := by decide +kernel
theorem dX5_told_233 : decode cX5_told 233 = .ok (.bastore, 1) := by decide +kernel
theorem dX5_told_234 : decode cX5_told 234 = .ok (.dup, 1) := by decide +kernel
theorem dX5_told_235 : decode cX5_told 235 = .ok (.iconst 1, 1) := by decide +kernel
theorem dX5_told_236 : decode cX5_told 236 = .ok (.iconst 1, 1) := by decide +kernel
theorem dX5_told_237 : decode cX5_told 237 = .ok (.bastore, 1) := by decide +kernel
theorem dX5_told_238 : decode cX5_told 238 = .ok (.dup, 1) := by decide +kernel
theorem dX5_told_239 : decode cX5_told 239 = .ok (.iconst 2, 1) := by decide +kernel
theorem dX5_told_240 : decode cX5_told 240 = .ok (.iconst 1, 1) := by decide +kernel
theorem dX5_told_241 : decode cX5_told 241 = .ok (.bastore, 1) := by decide +kernel
theorem dX5_told_242 : decode cX5_told 242 = .ok (.dup, 1) := by decide +kernel
theorem dX5_told_243 : decode cX5_told 243 = .ok (.iconst 3, 1) := by decide +kernel
theorem dX5_told_244 : decode cX5_told 244 = .ok (.iconst 1, 1) := by decide +kernel
theorem dX5_told_245 : decode cX5_told 245 = .ok (.bastore, 1) := by decide +kernel
theorem dX5_told_246 : decode cX5_told 246 = .ok (.dup, 1) := by decide +kernel
theorem dX5_told_247 : decode cX5_told 247 = .ok (.iconst 4, 1) := by decide +kernel
theorem dX5_told_248 : decode cX5_told 248 = .ok (.iconst 1, 1) := by decide +kernel
theorem dX5_told_249 : decode cX5_told 249 = .ok (.bastore, 1) := by decide +kernel
theorem dX5_told_250 : decode cX5_told 250 = .ok (.dup, 1) := by decide +kernel
theorem dX5_told_251 : decode cX5_told 251 = .ok (.iconst 5, 1) := by decide +kernel
theorem dX5_told_252 : decode cX5_told 252 = .ok (.iconst 1, 1) := by decide +kernel
theorem dX5_told_253 : decode cX5_told 253 = .ok (.bastore, 1) := by decide +kernel
theorem dX5_told_254 : decode cX5_told 254 = .ok (.astore 6, 2) := by decide +kernel
theorem dX5_told_256 : decode cX5_told 256 = .ok (.iload 5, 2) := by decide +kernel
theorem dX5_told_258 : decode cX5_told 258 = .ok (.istore 7, 2) := by decide +kernel
theorem dX5_told_260 : decode cX5_told 260 = .ok (.iload 7, 2) := by decide +kernel
theorem dX5_told_262 : decode cX5_told 262 = .ok (.iconst 5, 1) := by decide +kernel
theorem dX5_told_263 : decode cX5_told 263 = .ok (.if_icmp .ge 111, 3) := by decide +kernel
theorem dX5_told_266 : decode cX5_told 266 = .ok (.iconst 0, 1) := by decide +kernel
theorem dX5_told_267 : decode cX5_told 267 = .ok (.istore 8, 2) := by decide +kernel
theorem dX5_told_269 : decode cX5_told 269 = .ok (.iconst 0, 1) := by decide +kernel
theorem dX5_told_270 : decode cX5_told 270 = .ok (.istore 9, 2) := by decide +kernel
theorem dX5_told_272 : decode cX5_told 272 = .ok (.iload 9, 2) := by decide +kernel
theorem dX5_told_274 : decode cX5_told 274 = .ok (.bipush 6, 2) := by decide +kernel
theorem dX5_told_276 : decode cX5_told 276 = .ok (.if_icmp .ge 92, 3) := by decide +kernel
theorem dX5_told_279 : decode cX5_told 279 = .ok (.aload 6, 2) := by decide +kernel
theorem dX5_told_281 : decode cX5_told 281 = .ok (.iload 9, 2) := by decide +kernel
theorem dX5_told_283 : decode cX5_told 283 = .ok (.aload 6, 2) := by decide +kernel
theorem dX5_told_285 : decode cX5_told 285 = .ok (.iload 9, 2) := by decide +kernel
theorem dX5_told_287 : decode cX5_told 287 = .ok (.baload, 1) := by decide +kernel
theorem dX5_told_288 : decode cX5_told 288 = .ok (.ifCond .eq 37, 3) := by decide +kernel
theorem dX5_told_291 : decode cX5_told 291 = .ok (.aload_n 0, 1) := by decide +kernel
theorem dX5_told_292 : decode cX5_told 292 = .ok (.getfield 38, 3) := by decide +kernel
theorem dX5_told_295 : decode cX5_told 295 = .ok (.iload_n 1, 1) := by decide +kernel
theorem dX5_told_296 : decode cX5_told 296 = .ok (.aaload, 1) := by decide +kernel
theorem dX5_told_297 : decode cX5_told 297 = .ok (.iload 7, 2) := by decide +kernel
theorem dX5_told_299 : decode cX5_told 299 = .ok (.aaload, 1) := by decide +kernel
theorem dX5_told_300 : decode cX5_told 300 = .ok (.iload 9, 2) := by decide +kernel
theorem dX5_told_302 : decode cX5_told 302 = .ok (.baload, 1) := by decide +kernel
theorem dX5_told_303 : decode cX5_told 303 = .ok (.ifCond .ne 22, 3) := by decide +kernel
theorem dX5_told_306 : decode cX5_told 306 = .ok (.aload_n 0, 1) := by decide +kernel
theorem dX5_told_307 : decode cX5_told 307 = .ok (.getfield 34, 3) := by decide +kernel
theorem dX5_told_310 : decode cX5_told 310 = .ok (.iload_n 1, 1) := by decide +kernel
theorem dX5_told_311 : decode cX5_told 311 = .ok (.aaload, 1) := by decide +kernel
theorem dX5_told_312 : decode cX5_told 312 = .ok (.iload 7, 2) := by decide +kernel
theorem dX5_told_314 : decode cX5_told 314 = .ok (.aaload, 1) := by decide +kernel
theorem dX5_told_315 : decode cX5_told 315 = .ok (.iload 9, 2) := by decide +kernel
theorem dX5_told_317 : decode cX5_told 317 = .ok (.iaload, 1) := by decide +kernel
theorem dX5_told_318 : decode cX5_told 318 = .ok (.ifCond .ne 7, 3) := by decide +kernel
theorem dX5_told_321 : decode cX5_told 321 = .ok (.iconst 1, 1) := by decide +kernel
theorem dX5_told_322 : decode cX5_told 322 = .ok (.goto 4, 3) := by decide +kernel
theorem dX5_told_325 : decode cX5_told 325 = .ok (.iconst 0, 1) := by decide +kernel
theorem dX5_told_326 : decode cX5_told 326 = .ok (.bastore, 1) := by decide +kernel
theorem dX5_told_327 : decode cX5_told 327 = .ok (.aload 6, 2) := by decide +kernel
theorem dX5_told_329 : decode cX5_told 329 = .ok (.iload 9, 2) := by decide +kernel
theorem dX5_told_331 : decode cX5_told 331 = .ok (.baload, 1) := by decide +kernel
theorem dX5_told_332 : decode cX5_told 332 = .ok (.ifCond .eq 10, 3) := by decide +kernel
theorem dX5_told_335 : decode cX5_told 335 = .ok (.iload 8, 2) := by decide +kernel
theorem dX5_told_337 : decode cX5_told 337 = .ok (.iconst 1, 1) := by decide +kernel
theorem dX5_told_338 : decode cX5_told 338 = .ok (.iadd, 1) := by decide +kernel
theorem dX5_told_339 : decode cX5_told 339 = .ok (.goto 4, 3) := by decide +kernel
theorem dX5_told_342 : decode cX5_told 342 = .ok (.iconst 0, 1) := by decide +kernel
theorem dX5_told_343 : decode cX5_told 343 = .ok (.istore 8, 2) := by decide +kernel
theorem dX5_told_345 : decode cX5_told 345 = .ok (.iload 4, 2) := by decide +kernel
theorem dX5_told_347 : decode cX5_told 347 = .ok (.iload 8, 2) := by decide +kernel
theorem dX5_told_349 : decode cX5_told 349 = .ok (.iload 7, 2) := by decide +kernel
theorem dX5_told_351 : decode cX5_told 351 = .ok (.iload 5, 2) := by decide +kernel
theorem dX5_told_353 : decode cX5_told 353 = .ok (.isub, 1) := by decide +kernel
theorem dX5_told_354 : decode cX5_told 354 = .ok (.iconst 1, 1) := by decide +kernel
theorem dX5_told_355 : decode cX5_told 355 = .ok (.iadd, 1) := by decide +kernel
theorem dX5_told_356 : decode cX5_told 356 = .ok (.imul, 1) := by decide +kernel
theorem dX5_told_357 : decode cX5_told 357 = .ok (.invokestatic 63, 3) := by decide +kernel
theorem dX5_told_360 : decode cX5_told 360 = .ok (.istore 4, 2) := by decide +kernel
theorem dX5_told_362 : decode cX5_told 362 = .ok (.iinc 9 1, 3) := by decide +kernel
theorem dX5_told_365 : decode cX5_told 365 = .ok (.goto (-93), 3) := by decide +kernel
theorem dX5_told_368 : decode cX5_told 368 = .ok (.iinc 7 1, 3) := by decide +kernel
theorem dX5_told_371 : decode cX5_told 371 = .ok (.goto (-111), 3) := by decide +kernel
theorem dX5_told_374 : decode cX5_told 374 = .ok (.iinc 5 1, 3) := by decide +kernel
theorem dX5_told_377 : decode cX5_told 377 = .ok (.goto (-157), 3) := by decide +kernel
theorem dX5_told_380 : decode cX5_told 380 = .ok (.iload 4, 2) := by decide +kernel
theorem dX5_told_382 : decode cX5_told 382 = .ok (.ireturn, 1) := by decide +kernel
theorem dX5_broken_0 : decode cX5_broken 0 = .ok (.iconst 0, 1) := by decide +kernel
theorem dX5_broken_1 : decode cX5_broken 1 = .ok (.istore_n 1, 1) := by decide +kernel
theorem dX5_broken_2 : decode cX5_broken 2 = .ok (.aload_n 0, 1) := by decide +kernel
theorem dX5_broken_3 : decode cX5_broken 3 = .ok (.getfield 23, 3) := by decide +kernel
theorem dX5_broken_6 : decode cX5_broken 6 = .ok (.astore_n 2, 1) := by decide +kernel
theorem dX5_broken_7 : decode cX5_broken 7 = .ok (.aload_n 2, 1) := by decide +kernel
theorem dX5_broken_8 : decode cX5_broken 8 = .ok (.arraylength, 1) := by decide +kernel
theorem dX5_broken_9 : decode cX5_broken 9 = .ok (.istore_n 3, 1) := by decide +kernel
theorem dX5_broken_10 : decode cX5_broken 10 = .ok (.iconst 0, 1) := by decide +kernel
theorem dX5_broken_11 : decode cX5_broken 11 = .ok (.istore 4, 2) := by decide +kernel
theorem dX5_broken_13 : decode cX5_broken 13 = .ok (.iload 4, 2) := by decide +kernel
theorem dX5_broken_15 : decode cX5_broken 15 = .ok (.iload_n 3, 1) := by decide +kernel
theorem dX5_broken_16 : decode cX5_broken 16 = .ok (.if_icmp .ge 28, 3) := by decide +kernel
theorem dX5_broken_19 : decode cX5_broken 19 = .ok (.aload_n 2, 1) := by decide +kernel
theorem dX5_broken_20 : decode cX5_broken 20 = .ok (.iload 4, 2) := by decide +kernel
theorem dX5_broken_22 : decode cX5_broken 22 = .ok (.baload, 1) := by decide +kernel
theorem dX5_broken_23 : decode cX5_broken 23 = .ok (.istore 5, 2) := by decide +kernel
theorem dX5_broken_25 : decode cX5_broken 25 = .ok (.iload_n 1, 1) := by decide +kernel
theorem dX5_broken_26 : decode cX5_broken 26 = .ok (.iload 5, 2) := by decide +kernel
theorem dX5_broken_28 : decode cX5_broken 28 = .ok (.ifCond .eq 7, 3) := by decide +kernel
theorem dX5_broken_31 : decode cX5_broken 31 = .ok (.iconst 1, 1) := by decide +kernel
theorem dX5_broken_32 : decode cX5_broken 32 = .ok (.goto 4, 3) := by decide +kernel
theorem dX5_broken_35 : decode cX5_broken 35 = .ok (.iconst 0, 1) := by decide +kernel
theorem dX5_broken_36 : decode cX5_broken 36 = .ok (.iadd, 1) := by decide +kernel
theorem dX5_broken_37 : decode cX5_broken 37 = .ok (.istore_n 1, 1) := by decide +kernel
theorem dX5_broken_38 : decode cX5_broken 38 = .ok (.iinc 4 1, 3) := by decide +kernel
theorem dX5_broken_41 : decode cX5_broken 41 = .ok (.goto (-28), 3) := by decide +kernel
theorem dX5_broken_44 : decode cX5_broken 44 = .ok (.iload_n 1, 1) := by decide +kernel
theorem dX5_broken_45 : decode cX5_broken 45 = .ok (.ireturn, 1) := by decide +kernel
set_option maxRecDepth 20000 in
theorem ggX5_isSame_X4_sheet : GoodIn wsX5_isSame wsX4_sheet := goodIn_ca (goodIn_r _ [17, 18, 19, 20, 21, 16, 22, 23, 24, 25, 26, 27, 28, 29, 30, 31, 32, 33, 34, 35, 36, 37, 38, 39, 40, 41, 42, 43, 44, 45, 46, 47, 48, 49, 50, 51, 52, 53, 54, 55, 56, 57, 58, 59, 60, 61, 62, 63, 64, 65, 66, 67, 68, 69, 70, 71, 72, 73, 74, 75, 76, 77, 78, 79, 80, 81, 82, 83, 84, 85, 173, 174, 175, 176, 177, 178, 179] (by decide +kernel) (by decide +kernel)) (goodIn_sub (fun _ h => List.mem_cons_of_mem _ (List.mem_append_right _ h)) (by decide +kernel))
set_option maxRecDepth 20000 in
theorem gX5_isSame_X4_sheet : GoodIn wsX5_isSame (wsV RX5 69 RX4 yX4_sheet wsX4_sheet) := goodIn_app (goodIn_of _ (by decide +kernel)) ggX5_isSame_X4_sheet
set_option maxRecDepth 20000 in
theorem ggX5_isSame_X5_told : GoodIn wsX5_isSame wsX5_told := goodIn_r _ [90, 1, 91, 92, 93, 76, 77, 78, 94, 95, 89, 96, 161, 162, 163, 164, 165, 166, 167, 168, 169, 170, 171, 172] (by decide +kernel) (by decide +kernel)
set_option maxRecDepth 20000 in
theorem gX5_isSame_X5_told : GoodIn wsX5_isSame (wsV RX5 73 RX5 yX5_told wsX5_told) := goodIn_app (goodIn_of _ (by decide +kernel)) ggX5_isSame_X5_told
set_option maxRecDepth 20000 in
theorem ggX5_isSame_X4_faults : GoodIn wsX5_isSame wsX4_faults := goodIn_ca (goodIn_r _ [100, 18, 19, 20, 21, 16, 22, 23, 24, 25, 26, 27, 28, 101, 102, 103, 173, 174, 175, 176, 177, 178, 179] (by decide +kernel) (by decide +kernel)) (goodIn_sub (fun _ h => List.mem_cons_of_mem _ (List.mem_append_right _ h)) (by decide +kernel))
set_option maxRecDepth 20000 in
theorem gX5_isSame_X4_faults : GoodIn wsX5_isSame (wsV RX5 76 RX4 yX4_faults wsX4_faults) := goodIn_app (goodIn_of _ (by decide +kernel)) ggX5_isSame_X4_faults
set_option maxRecDepth 20000 in
theorem ggX5_isSame_X4_pin : GoodIn wsX5_isSame wsX4_pin := goodIn_ca (goodIn_r _ [107, 108, 109, 110, 16, 111, 23, 24, 26, 27, 28, 29, 30, 31, 112, 113, 114, 115, 116, 117, 118, 119, 120, 121, 122, 173, 174, 175, 176, 177, 180, 181, 182, 183, 184, 185, 186, 187, 188] (by decide +kernel) (by decide +kernel)) (goodIn_sub (fun _ h => List.mem_cons_of_mem _ (List.mem_append_right _ h)) (by decide +kernel))
set_option maxRecDepth 20000 in
theorem gX5_isSame_X4_pin : GoodIn wsX5_isSame (wsV RX5 80 RX4 yX4_pin wsX4_pin) := goodIn_app (goodIn_of _ (by decide +kernel)) ggX5_isSame_X4_pin
set_option maxRecDepth 20000 in
theorem ggX5_isSame_X5_broken : GoodIn wsX5_isSame wsX5_broken := goodIn_r _ [126, 5, 161, 162, 163, 164, 165, 166, 167, 168, 169, 170, 171, 172] (by decide +kernel) (by decide +kernel)
set_option maxRecDepth 20000 in
theorem gX5_isSame_X5_broken : GoodIn wsX5_isSame (wsV RX5 83 RX5 yX5_broken wsX5_broken) := goodIn_app (goodIn_of _ (by decide +kernel)) ggX5_isSame_X5_broken
set_option maxRecDepth 20000 in
theorem ggX5_isSame_X4_count : GoodIn wsX5_isSame wsX4_count := goodIn_ca (goodIn_r _ [130, 29, 30, 16, 31, 23, 24, 26, 27, 28, 131, 132, 133, 134, 25, 108, 135, 136, 137, 138, 139, 140, 141, 120, 121, 115, 122, 118, 117, 142, 143, 144, 145, 146, 147, 148, 149, 150, 18, 151, 52, 53, 35, 54, 55, 56, 57, 58, 50, 41, 173, 174, 175, 176, 177, 180, 181, 182, 183, 184, 185, 186, 187, 188, 178, 179] (by decide +kernel) (by decide +kernel)) (goodIn_sub (fun _ h => List.mem_cons_of_mem _ (List.mem_append_right _ h)) (by decide +kernel))
set_option maxRecDepth 20000 in
theorem gX5_isSame_X4_count : GoodIn wsX5_isSame (wsV RX5 86 RX4 yX4_count wsX4_count) := goodIn_app (goodIn_of _ (by decide +kernel)) ggX5_isSame_X4_count
set_option maxRecDepth 20000 in
theorem ggX5_isSame_X4_share : GoodIn wsX5_isSame wsX4_share := goodIn_r _ [155, 25, 156, 157, 158, 16, 159, 18, 160, 43, 44, 35, 45, 46, 47, 48, 49, 41, 50, 173, 174, 175, 176, 177, 178, 179] (by decide +kernel) (by decide +kernel)
set_option maxRecDepth 20000 in
theorem gX5_isSame_X4_share : GoodIn wsX5_isSame (wsV RX5 90 RX4 yX4_share wsX4_share) := goodIn_app (goodIn_of _ (by decide +kernel)) ggX5_isSame_X4_share
theorem dX5_isSame_0 : decode cX5_isSame 0 = .ok (.iconst 0, 1) := by decide +kernel
theorem dX5_isSame_1 : decode cX5_isSame 1 = .ok (.istore_n 2, 1) := by decide +kernel
theorem dX5_isSame_2 : decode cX5_isSame 2 = .ok (.iconst 0, 1) := by decide +kernel
theorem dX5_isSame_3 : decode cX5_isSame 3 = .ok (.istore_n 3, 1) := by decide +kernel
theorem dX5_isSame_4 : decode cX5_isSame 4 = .ok (.iconst 0, 1) := by decide +kernel
theorem dX5_isSame_5 : decode cX5_isSame 5 = .ok (.istore 4, 2) := by decide +kernel
theorem dX5_isSame_7 : decode cX5_isSame 7 = .ok (.iload 4, 2) := by decide +kernel
theorem dX5_isSame_9 : decode cX5_isSame 9 = .ok (.aload_n 0, 1) := by decide +kernel
theorem dX5_isSame_10 : decode cX5_isSame 10 = .ok (.getfield 34, 3) := by decide +kernel
theorem dX5_isSame_13 : decode cX5_isSame 13 = .ok (.arraylength, 1) := by decide +kernel
theorem dX5_isSame_14 : decode cX5_isSame 14 = .ok (.if_icmp .ge 125, 3) := by decide +kernel
theorem dX5_isSame_17 : decode cX5_isSame 17 = .ok (.iconst 0, 1) := by decide +kernel
theorem dX5_isSame_18 : decode cX5_isSame 18 = .ok (.istore 5, 2) := by decide +kernel
theorem dX5_isSame_20 : decode cX5_isSame 20 = .ok (.iload 5, 2) := by decide +kernel
theorem dX5_isSame_22 : decode cX5_isSame 22 = .ok (.bipush 6, 2) := by decide +kernel
theorem dX5_isSame_24 : decode cX5_isSame 24 = .ok (.if_icmp .ge 30, 3) := by decide +kernel
theorem dX5_isSame_27 : decode cX5_isSame 27 = .ok (.aload_n 1, 1) := by decide +kernel
theorem dX5_isSame_28 : decode cX5_isSame 28 = .ok (.iload 4, 2) := by decide +kernel
theorem dX5_isSame_30 : decode cX5_isSame 30 = .ok (.iload 5, 2) := by decide +kernel
theorem dX5_isSame_32 : decode cX5_isSame 32 = .ok (.invokevirtual 69, 3) := by decide +kernel
theorem dX5_isSame_35 : decode cX5_isSame 35 = .ok (.aload_n 0, 1) := by decide +kernel
theorem dX5_isSame_36 : decode cX5_isSame 36 = .ok (.iload 4, 2) := by decide +kernel
theorem dX5_isSame_38 : decode cX5_isSame 38 = .ok (.iload 5, 2) := by decide +kernel
theorem dX5_isSame_40 : decode cX5_isSame 40 = .ok (.invokevirtual 73, 3) := by decide +kernel
theorem dX5_isSame_43 : decode cX5_isSame 43 = .ok (.if_icmp .eq 5, 3) := by decide +kernel
theorem dX5_isSame_46 : decode cX5_isSame 46 = .ok (.iconst 0, 1) := by decide +kernel
theorem dX5_isSame_47 : decode cX5_isSame 47 = .ok (.ireturn, 1) := by decide +kernel
theorem dX5_isSame_48 : decode cX5_isSame 48 = .ok (.iinc 5 1, 3) := by decide +kernel
theorem dX5_isSame_51 : decode cX5_isSame 51 = .ok (.goto (-31), 3) := by decide +kernel
theorem dX5_isSame_54 : decode cX5_isSame 54 = .ok (.iconst 0, 1) := by decide +kernel
theorem dX5_isSame_55 : decode cX5_isSame 55 = .ok (.istore 5, 2) := by decide +kernel
theorem dX5_isSame_57 : decode cX5_isSame 57 = .ok (.iload 5, 2) := by decide +kernel
theorem dX5_isSame_59 : decode cX5_isSame 59 = .ok (.iconst 5, 1) := by decide +kernel
theorem dX5_isSame_60 : decode cX5_isSame 60 = .ok (.if_icmp .ge 53, 3) := by decide +kernel
theorem dX5_isSame_63 : decode cX5_isSame 63 = .ok (.iconst 0, 1) := by decide +kernel
theorem dX5_isSame_64 : decode cX5_isSame 64 = .ok (.istore 6, 2) := by decide +kernel
theorem dX5_isSame_66 : decode cX5_isSame 66 = .ok (.iload 6, 2) := by decide +kernel
theorem dX5_isSame_68 : decode cX5_isSame 68 = .ok (.bipush 6, 2) := by decide +kernel
theorem dX5_isSame_70 : decode cX5_isSame 70 = .ok (.if_icmp .ge 37, 3) := by decide +kernel
theorem dX5_isSame_73 : decode cX5_isSame 73 = .ok (.aload_n 1, 1) := by decide +kernel
theorem dX5_isSame_74 : decode cX5_isSame 74 = .ok (.iload 4, 2) := by decide +kernel
theorem dX5_isSame_76 : decode cX5_isSame 76 = .ok (.iload 5, 2) := by decide +kernel
theorem dX5_isSame_78 : decode cX5_isSame 78 = .ok (.iload 6, 2) := by decide +kernel
theorem dX5_isSame_80 : decode cX5_isSame 80 = .ok (.invokevirtual 76, 3) := by decide +kernel
theorem dX5_isSame_83 : decode cX5_isSame 83 = .ok (.aload_n 0, 1) := by decide +kernel
theorem dX5_isSame_84 : decode cX5_isSame 84 = .ok (.getfield 34, 3) := by decide +kernel
theorem dX5_isSame_87 : decode cX5_isSame 87 = .ok (.iload 4, 2) := by decide +kernel
theorem dX5_isSame_89 : decode cX5_isSame 89 = .ok (.aaload, 1) := by decide +kernel
theorem dX5_isSame_90 : decode cX5_isSame 90 = .ok (.iload 5, 2) := by decide +kernel
theorem dX5_isSame_92 : decode cX5_isSame 92 = .ok (.aaload, 1) := by decide +kernel
theorem dX5_isSame_93 : decode cX5_isSame 93 = .ok (.iload 6, 2) := by decide +kernel
theorem dX5_isSame_95 : decode cX5_isSame 95 = .ok (.iaload, 1) := by decide +kernel
theorem dX5_isSame_96 : decode cX5_isSame 96 = .ok (.if_icmp .eq 5, 3) := by decide +kernel
theorem dX5_isSame_99 : decode cX5_isSame 99 = .ok (.iconst 0, 1) := by decide +kernel
theorem dX5_isSame_100 : decode cX5_isSame 100 = .ok (.ireturn, 1) := by decide +kernel
theorem dX5_isSame_101 : decode cX5_isSame 101 = .ok (.iinc 6 1, 3) := by decide +kernel
theorem dX5_isSame_104 : decode cX5_isSame 104 = .ok (.goto (-38), 3) := by decide +kernel
theorem dX5_isSame_107 : decode cX5_isSame 107 = .ok (.iinc 5 1, 3) := by decide +kernel
theorem dX5_isSame_110 : decode cX5_isSame 110 = .ok (.goto (-53), 3) := by decide +kernel
theorem dX5_isSame_113 : decode cX5_isSame 113 = .ok (.iload_n 2, 1) := by decide +kernel
theorem dX5_isSame_114 : decode cX5_isSame 114 = .ok (.aload_n 0, 1) := by decide +kernel
theorem dX5_isSame_115 : decode cX5_isSame 115 = .ok (.iload 4, 2) := by decide +kernel
theorem dX5_isSame_117 : decode cX5_isSame 117 = .ok (.iconst 2, 1) := by decide +kernel
theorem dX5_isSame_118 : decode cX5_isSame 118 = .ok (.invokevirtual 73, 3) := by decide +kernel
theorem dX5_isSame_121 : decode cX5_isSame 121 = .ok (.iadd, 1) := by decide +kernel
theorem dX5_isSame_122 : decode cX5_isSame 122 = .ok (.istore_n 2, 1) := by decide +kernel
theorem dX5_isSame_123 : decode cX5_isSame 123 = .ok (.iload_n 3, 1) := by decide +kernel
theorem dX5_isSame_124 : decode cX5_isSame 124 = .ok (.aload_n 0, 1) := by decide +kernel
theorem dX5_isSame_125 : decode cX5_isSame 125 = .ok (.iload 4, 2) := by decide +kernel
theorem dX5_isSame_127 : decode cX5_isSame 127 = .ok (.iconst 1, 1) := by decide +kernel
theorem dX5_isSame_128 : decode cX5_isSame 128 = .ok (.invokevirtual 73, 3) := by decide +kernel
theorem dX5_isSame_131 : decode cX5_isSame 131 = .ok (.iadd, 1) := by decide +kernel
theorem dX5_isSame_132 : decode cX5_isSame 132 = .ok (.istore_n 3, 1) := by decide +kernel
theorem dX5_isSame_133 : decode cX5_isSame 133 = .ok (.iinc 4 1, 3) := by decide +kernel
theorem dX5_isSame_136 : decode cX5_isSame 136 = .ok (.goto (-129), 3) := by decide +kernel
theorem dX5_isSame_139 : decode cX5_isSame 139 = .ok (.iconst 0, 1) := by decide +kernel
theorem dX5_isSame_140 : decode cX5_isSame 140 = .ok (.istore 4, 2) := by decide +kernel
theorem dX5_isSame_142 : decode cX5_isSame 142 = .ok (.iload 4, 2) := by decide +kernel
theorem dX5_isSame_144 : decode cX5_isSame 144 = .ok (.bipush 7, 2) := by decide +kernel
theorem dX5_isSame_146 : decode cX5_isSame 146 = .ok (.if_icmp .ge 119, 3) := by decide +kernel
theorem dX5_isSame_149 : decode cX5_isSame 149 = .ok (.iconst 4, 1) := by decide +kernel
theorem dX5_isSame_150 : decode cX5_isSame 150 = .ok (.newarray .int, 2) := by decide +kernel
theorem dX5_isSame_152 : decode cX5_isSame 152 = .ok (.dup, 1) := by decide +kernel
theorem dX5_isSame_153 : decode cX5_isSame 153 = .ok (.iconst 0, 1) := by decide +kernel
theorem dX5_isSame_154 : decode cX5_isSame 154 = .ok (.aload_n 0, 1) := by decide +kernel
theorem dX5_isSame_155 : decode cX5_isSame 155 = .ok (.getfield 16, 3) := by decide +kernel
theorem dX5_isSame_158 : decode cX5_isSame 158 = .ok (.iload 4, 2) := by decide +kernel
theorem dX5_isSame_160 : decode cX5_isSame 160 = .ok (.iaload, 1) := by decide +kernel
theorem dX5_isSame_161 : decode cX5_isSame 161 = .ok (.iastore, 1) := by decide +kernel
theorem dX5_isSame_162 : decode cX5_isSame 162 = .ok (.dup, 1) := by decide +kernel
theorem dX5_isSame_163 : decode cX5_isSame 163 = .ok (.iconst 1, 1) := by decide +kernel
theorem dX5_isSame_164 : decode cX5_isSame 164 = .ok (.aload_n 0, 1) := by decide +kernel
theorem dX5_isSame_165 : decode cX5_isSame 165 = .ok (.getfield 20, 3) := by decide +kernel
theorem dX5_isSame_168 : decode cX5_isSame 168 = .ok (.iload 4, 2) := by decide +kernel
theorem dX5_isSame_170 : decode cX5_isSame 170 = .ok (.iaload, 1) := by decide +kernel
theorem dX5_isSame_171 : decode cX5_isSame 171 = .ok (.iastore, 1) := by decide +kernel
theorem dX5_isSame_172 : decode cX5_isSame 172 = .ok (.dup, 1) := by decide +kernel
theorem dX5_isSame_173 : decode cX5_isSame 173 = .ok (.iconst 2, 1) := by decide +kernel
theorem dX5_isSame_174 : decode cX5_isSame 174 = .ok (.aload_n 0, 1) := by decide +kernel
theorem dX5_isSame_175 : decode cX5_isSame 175 = .ok (.getfield 23, 3) := by decide +kernel
theorem dX5_isSame_178 : decode cX5_isSame 178 = .ok (.iload 4, 2) := by decide +kernel
theorem dX5_isSame_180 : decode cX5_isSame 180 = .ok (.baload, 1) := by decide +kernel
theorem dX5_isSame_181 : decode cX5_isSame 181 = .ok (.ifCond .eq 7, 3) := by decide +kernel
theorem dX5_isSame_184 : decode cX5_isSame 184 = .ok (.iconst 0, 1) := by decide +kernel
theorem dX5_isSame_185 : decode cX5_isSame 185 = .ok (.goto 4, 3) := by decide +kernel
theorem dX5_isSame_188 : decode cX5_isSame 188 = .ok (.iconst 1, 1) := by decide +kernel
theorem dX5_isSame_189 : decode cX5_isSame 189 = .ok (.iastore, 1) := by decide +kernel
theorem dX5_isSame_190 : decode cX5_isSame 190 = .ok (.dup, 1) := by decide +kernel
theorem dX5_isSame_191 : decode cX5_isSame 191 = .ok (.iconst 3, 1) := by decide +kernel
theorem dX5_isSame_192 : decode cX5_isSame 192 = .ok (.aload_n 0, 1) := by decide +kernel
theorem dX5_isSame_193 : decode cX5_isSame 193 = .ok (.getfield 23, 3) := by decide +kernel
theorem dX5_isSame_196 : decode cX5_isSame 196 = .ok (.iload 4, 2) := by decide +kernel
theorem dX5_isSame_198 : decode cX5_isSame 198 = .ok (.baload, 1) := by decide +kernel
theorem dX5_isSame_199 : decode cX5_isSame 199 = .ok (.ifCond .eq 7, 3) := by decide +kernel
theorem dX5_isSame_202 : decode cX5_isSame 202 = .ok (.iconst 0, 1) := by decide +kernel
theorem dX5_isSame_203 : decode cX5_isSame 203 = .ok (.goto 20, 3) := by decide +kernel
theorem dX5_isSame_206 : decode cX5_isSame 206 = .ok (.aload_n 0, 1) := by decide +kernel
theorem dX5_isSame_207 : decode cX5_isSame 207 = .ok (.getfield 16, 3) := by decide +kernel
theorem dX5_isSame_210 : decode cX5_isSame 210 = .ok (.iload 4, 2) := by decide +kernel
theorem dX5_isSame_212 : decode cX5_isSame 212 = .ok (.iaload, 1) := by decide +kernel
theorem dX5_isSame_213 : decode cX5_isSame 213 = .ok (.iconst 1, 1) := by decide +kernel
theorem dX5_isSame_214 : decode cX5_isSame 214 = .ok (.iadd, 1) := by decide +kernel
theorem dX5_isSame_215 : decode cX5_isSame 215 = .ok (.aload_n 0, 1) := by decide +kernel
theorem dX5_isSame_216 : decode cX5_isSame 216 = .ok (.getfield 20, 3) := by decide +kernel
theorem dX5_isSame_219 : decode cX5_isSame 219 = .ok (.iload 4, 2) := by decide +kernel
theorem dX5_isSame_221 : decode cX5_isSame 221 = .ok (.iaload, 1) := by decide +kernel
theorem dX5_isSame_222 : decode cX5_isSame 222 = .ok (.isub, 1) := by decide +kernel
theorem dX5_isSame_223 : decode cX5_isSame 223 = .ok (.iastore, 1) := by decide +kernel
theorem dX5_isSame_224 : decode cX5_isSame 224 = .ok (.astore 5, 2) := by decide +kernel
theorem dX5_isSame_226 : decode cX5_isSame 226 = .ok (.iconst 0, 1) := by decide +kernel
theorem dX5_isSame_227 : decode cX5_isSame 227 = .ok (.istore 6, 2) := by decide +kernel
theorem dX5_isSame_229 : decode cX5_isSame 229 = .ok (.iload 6, 2) := by decide +kernel
theorem dX5_isSame_231 : decode cX5_isSame 231 = .ok (.iconst 4, 1) := by decide +kernel
theorem dX5_isSame_232 : decode cX5_isSame 232 = .ok (.if_icmp .ge 27, 3) := by decide +kernel
theorem dX5_isSame_235 : decode cX5_isSame 235 = .ok (.aload_n 1, 1) := by decide +kernel
theorem dX5_isSame_236 : decode cX5_isSame 236 = .ok (.iload 4, 2) := by decide +kernel
theorem dX5_isSame_238 : decode cX5_isSame 238 = .ok (.iload 6, 2) := by decide +kernel
theorem dX5_isSame_240 : decode cX5_isSame 240 = .ok (.invokevirtual 80, 3) := by decide +kernel
theorem dX5_isSame_243 : decode cX5_isSame 243 = .ok (.aload 5, 2) := by decide +kernel
theorem dX5_isSame_245 : decode cX5_isSame 245 = .ok (.iload 6, 2) := by decide +kernel
theorem dX5_isSame_247 : decode cX5_isSame 247 = .ok (.iaload, 1) := by decide +kernel
theorem dX5_isSame_248 : decode cX5_isSame 248 = .ok (.if_icmp .eq 5, 3) := by decide +kernel
theorem dX5_isSame_251 : decode cX5_isSame 251 = .ok (.iconst 0, 1) := by decide +kernel
theorem dX5_isSame_252 : decode cX5_isSame 252 = .ok (.ireturn, 1) := by decide +kernel
theorem dX5_isSame_253 : decode cX5_isSame 253 = .ok (.iinc 6 1, 3) := by decide +kernel
theorem dX5_isSame_256 : decode cX5_isSame 256 = .ok (.goto (-27), 3) := by decide +kernel
theorem dX5_isSame_259 : decode cX5_isSame 259 = .ok (.iinc 4 1, 3) := by decide +kernel
theorem dX5_isSame_262 : decode cX5_isSame 262 = .ok (.goto (-120), 3) := by decide +kernel
theorem dX5_isSame_265 : decode cX5_isSame 265 = .ok (.iconst 0, 1) := by decide +kernel
theorem dX5_isSame_266 : decode cX5_isSame 266 = .ok (.istore 4, 2) := by decide +kernel
theorem dX5_isSame_268 : decode cX5_isSame 268 = .ok (.aload_n 0, 1) := by decide +kernel
theorem dX5_isSame_269 : decode cX5_isSame 269 = .ok (.getfield 29, 3) := by decide +kernel
theorem dX5_isSame_272 : decode cX5_isSame 272 = .ok (.astore 5, 2) := by decide +kernel
theorem dX5_isSame_274 : decode cX5_isSame 274 = .ok (.aload 5, 2) := by decide +kernel
theorem dX5_isSame_276 : decode cX5_isSame 276 = .ok (.arraylength, 1) := by decide +kernel
theorem dX5_isSame_277 : decode cX5_isSame 277 = .ok (.istore 6, 2) := by decide +kernel
theorem dX5_isSame_279 : decode cX5_isSame 279 = .ok (.iconst 0, 1) := by decide +kernel
theorem dX5_isSame_280 : decode cX5_isSame 280 = .ok (.istore 7, 2) := by decide +kernel
theorem dX5_isSame_282 : decode cX5_isSame 282 = .ok (.iload 7, 2) := by decide +kernel
theorem dX5_isSame_284 : decode cX5_isSame 284 = .ok (.iload 6, 2) := by decide +kernel
theorem dX5_isSame_286 : decode cX5_isSame 286 = .ok (.if_icmp .ge 63, 3) := by decide +kernel
theorem dX5_isSame_289 : decode cX5_isSame 289 = .ok (.aload 5, 2) := by decide +kernel
theorem dX5_isSame_291 : decode cX5_isSame 291 = .ok (.iload 7, 2) := by decide +kernel
theorem dX5_isSame_293 : decode cX5_isSame 293 = .ok (.aaload, 1) := by decide +kernel
theorem dX5_isSame_294 : decode cX5_isSame 294 = .ok (.astore 8, 2) := by decide +kernel
theorem dX5_isSame_296 : decode cX5_isSame 296 = .ok (.aload 8, 2) := by decide +kernel
theorem dX5_isSame_298 : decode cX5_isSame 298 = .ok (.astore 9, 2) := by decide +kernel
theorem dX5_isSame_300 : decode cX5_isSame 300 = .ok (.aload 9, 2) := by decide +kernel
theorem dX5_isSame_302 : decode cX5_isSame 302 = .ok (.arraylength, 1) := by decide +kernel
theorem dX5_isSame_303 : decode cX5_isSame 303 = .ok (.istore 10, 2) := by decide +kernel
theorem dX5_isSame_305 : decode cX5_isSame 305 = .ok (.iconst 0, 1) := by decide +kernel
theorem dX5_isSame_306 : decode cX5_isSame 306 = .ok (.istore 11, 2) := by decide +kernel
theorem dX5_isSame_308 : decode cX5_isSame 308 = .ok (.iload 11, 2) := by decide +kernel
theorem dX5_isSame_310 : decode cX5_isSame 310 = .ok (.iload 10, 2) := by decide +kernel
theorem dX5_isSame_312 : decode cX5_isSame 312 = .ok (.if_icmp .ge 31, 3) := by decide +kernel
theorem dX5_isSame_315 : decode cX5_isSame 315 = .ok (.aload 9, 2) := by decide +kernel
theorem dX5_isSame_317 : decode cX5_isSame 317 = .ok (.iload 11, 2) := by decide +kernel
theorem dX5_isSame_319 : decode cX5_isSame 319 = .ok (.baload, 1) := by decide +kernel
theorem dX5_isSame_320 : decode cX5_isSame 320 = .ok (.istore 12, 2) := by decide +kernel
theorem dX5_isSame_322 : decode cX5_isSame 322 = .ok (.iload 4, 2) := by decide +kernel
theorem dX5_isSame_324 : decode cX5_isSame 324 = .ok (.iload 12, 2) := by decide +kernel
theorem dX5_isSame_326 : decode cX5_isSame 326 = .ok (.ifCond .eq 7, 3) := by decide +kernel
theorem dX5_isSame_329 : decode cX5_isSame 329 = .ok (.iconst 1, 1) := by decide +kernel
theorem dX5_isSame_330 : decode cX5_isSame 330 = .ok (.goto 4, 3) := by decide +kernel
theorem dX5_isSame_333 : decode cX5_isSame 333 = .ok (.iconst 0, 1) := by decide +kernel
theorem dX5_isSame_334 : decode cX5_isSame 334 = .ok (.iadd, 1) := by decide +kernel
theorem dX5_isSame_335 : decode cX5_isSame 335 = .ok (.istore 4, 2) := by decide +kernel
theorem dX5_isSame_337 : decode cX5_isSame 337 = .ok (.iinc 11 1, 3) := by decide +kernel
theorem dX5_isSame_340 : decode cX5_isSame 340 = .ok (.goto (-32), 3) := by decide +kernel
theorem dX5_isSame_343 : decode cX5_isSame 343 = .ok (.iinc 7 1, 3) := by decide +kernel
theorem dX5_isSame_346 : decode cX5_isSame 346 = .ok (.goto (-64), 3) := by decide +kernel
theorem dX5_isSame_349 : decode cX5_isSame 349 = .ok (.bipush 10, 2) := by decide +kernel
theorem dX5_isSame_351 : decode cX5_isSame 351 = .ok (.newarray .int, 2) := by decide +kernel
theorem dX5_isSame_353 : decode cX5_isSame 353 = .ok (.dup, 1) := by decide +kernel
theorem dX5_isSame_354 : decode cX5_isSame 354 = .ok (.iconst 0, 1) := by decide +kernel
theorem dX5_isSame_355 : decode cX5_isSame 355 = .ok (.aload_n 0, 1) := by decide +kernel
theorem dX5_isSame_356 : decode cX5_isSame 356 = .ok (.getfield 34, 3) := by decide +kernel
theorem dX5_isSame_359 : decode cX5_isSame 359 = .ok (.arraylength, 1) := by decide +kernel
theorem dX5_isSame_360 : decode cX5_isSame 360 = .ok (.iastore, 1) := by decide +kernel
theorem dX5_isSame_361 : decode cX5_isSame 361 = .ok (.dup, 1) := by decide +kernel
theorem dX5_isSame_362 : decode cX5_isSame 362 = .ok (.iconst 1, 1) := by decide +kernel
theorem dX5_isSame_363 : decode cX5_isSame 363 = .ok (.aload_n 0, 1) := by decide +kernel
theorem dX5_isSame_364 : decode cX5_isSame 364 = .ok (.getfield 7, 3) := by decide +kernel
theorem dX5_isSame_367 : decode cX5_isSame 367 = .ok (.iastore, 1) := by decide +kernel
theorem dX5_isSame_368 : decode cX5_isSame 368 = .ok (.dup, 1) := by decide +kernel
theorem dX5_isSame_369 : decode cX5_isSame 369 = .ok (.iconst 2, 1) := by decide +kernel
theorem dX5_isSame_370 : decode cX5_isSame 370 = .ok (.aload_n 0, 1) := by decide +kernel
theorem dX5_isSame_371 : decode cX5_isSame 371 = .ok (.getfield 43, 3) := by decide +kernel
theorem dX5_isSame_374 : decode cX5_isSame 374 = .ok (.iastore, 1) := by decide +kernel
theorem dX5_isSame_375 : decode cX5_isSame 375 = .ok (.dup, 1) := by decide +kernel
theorem dX5_isSame_376 : decode cX5_isSame 376 = .ok (.iconst 3, 1) := by decide +kernel
theorem dX5_isSame_377 : decode cX5_isSame 377 = .ok (.aload_n 0, 1) := by decide +kernel
theorem dX5_isSame_378 : decode cX5_isSame 378 = .ok (.getfield 46, 3) := by decide +kernel
theorem dX5_isSame_381 : decode cX5_isSame 381 = .ok (.iastore, 1) := by decide +kernel
theorem dX5_isSame_382 : decode cX5_isSame 382 = .ok (.dup, 1) := by decide +kernel
theorem dX5_isSame_383 : decode cX5_isSame 383 = .ok (.iconst 4, 1) := by decide +kernel
theorem dX5_isSame_384 : decode cX5_isSame 384 = .ok (.aload_n 0, 1) := by decide +kernel
theorem dX5_isSame_385 : decode cX5_isSame 385 = .ok (.getfield 52, 3) := by decide +kernel
theorem dX5_isSame_388 : decode cX5_isSame 388 = .ok (.iastore, 1) := by decide +kernel
theorem dX5_isSame_389 : decode cX5_isSame 389 = .ok (.dup, 1) := by decide +kernel
theorem dX5_isSame_390 : decode cX5_isSame 390 = .ok (.iconst 5, 1) := by decide +kernel
theorem dX5_isSame_391 : decode cX5_isSame 391 = .ok (.aload_n 0, 1) := by decide +kernel
theorem dX5_isSame_392 : decode cX5_isSame 392 = .ok (.getfield 13, 3) := by decide +kernel
theorem dX5_isSame_395 : decode cX5_isSame 395 = .ok (.iastore, 1) := by decide +kernel
theorem dX5_isSame_396 : decode cX5_isSame 396 = .ok (.dup, 1) := by decide +kernel
theorem dX5_isSame_397 : decode cX5_isSame 397 = .ok (.bipush 6, 2) := by decide +kernel
theorem dX5_isSame_399 : decode cX5_isSame 399 = .ok (.aload_n 0, 1) := by decide +kernel
theorem dX5_isSame_400 : decode cX5_isSame 400 = .ok (.getfield 49, 3) := by decide +kernel
theorem dX5_isSame_403 : decode cX5_isSame 403 = .ok (.iastore, 1) := by decide +kernel
theorem dX5_isSame_404 : decode cX5_isSame 404 = .ok (.dup, 1) := by decide +kernel
theorem dX5_isSame_405 : decode cX5_isSame 405 = .ok (.bipush 7, 2) := by decide +kernel
theorem dX5_isSame_407 : decode cX5_isSame 407 = .ok (.aload_n 0, 1) := by decide +kernel
theorem dX5_isSame_408 : decode cX5_isSame 408 = .ok (.invokevirtual 83, 3) := by decide +kernel
theorem dX5_isSame_411 : decode cX5_isSame 411 = .ok (.iastore, 1) := by decide +kernel
theorem dX5_isSame_412 : decode cX5_isSame 412 = .ok (.dup, 1) := by decide +kernel
theorem dX5_isSame_413 : decode cX5_isSame 413 = .ok (.bipush 8, 2) := by decide +kernel
theorem dX5_isSame_415 : decode cX5_isSame 415 = .ok (.iload 4, 2) := by decide +kernel
theorem dX5_isSame_417 : decode cX5_isSame 417 = .ok (.iastore, 1) := by decide +kernel
theorem dX5_isSame_418 : decode cX5_isSame 418 = .ok (.dup, 1) := by decide +kernel
theorem dX5_isSame_419 : decode cX5_isSame 419 = .ok (.bipush 9, 2) := by decide +kernel
theorem dX5_isSame_421 : decode cX5_isSame 421 = .ok (.iload_n 2, 1) := by decide +kernel
theorem dX5_isSame_422 : decode cX5_isSame 422 = .ok (.iastore, 1) := by decide +kernel
theorem dX5_isSame_423 : decode cX5_isSame 423 = .ok (.astore 5, 2) := by decide +kernel
theorem dX5_isSame_425 : decode cX5_isSame 425 = .ok (.iconst 0, 1) := by decide +kernel
theorem dX5_isSame_426 : decode cX5_isSame 426 = .ok (.istore 6, 2) := by decide +kernel
theorem dX5_isSame_428 : decode cX5_isSame 428 = .ok (.iload 6, 2) := by decide +kernel
theorem dX5_isSame_430 : decode cX5_isSame 430 = .ok (.bipush 10, 2) := by decide +kernel
theorem dX5_isSame_432 : decode cX5_isSame 432 = .ok (.if_icmp .ge 25, 3) := by decide +kernel
theorem dX5_isSame_435 : decode cX5_isSame 435 = .ok (.aload_n 1, 1) := by decide +kernel
theorem dX5_isSame_436 : decode cX5_isSame 436 = .ok (.iload 6, 2) := by decide +kernel
theorem dX5_isSame_438 : decode cX5_isSame 438 = .ok (.invokevirtual 86, 3) := by decide +kernel
theorem dX5_isSame_441 : decode cX5_isSame 441 = .ok (.aload 5, 2) := by decide +kernel
theorem dX5_isSame_443 : decode cX5_isSame 443 = .ok (.iload 6, 2) := by decide +kernel
theorem dX5_isSame_445 : decode cX5_isSame 445 = .ok (.iaload, 1) := by decide +kernel
theorem dX5_isSame_446 : decode cX5_isSame 446 = .ok (.if_icmp .eq 5, 3) := by decide +kernel
theorem dX5_isSame_449 : decode cX5_isSame 449 = .ok (.iconst 0, 1) := by decide +kernel
theorem dX5_isSame_450 : decode cX5_isSame 450 = .ok (.ireturn, 1) := by decide +kernel
theorem dX5_isSame_451 : decode cX5_isSame 451 = .ok (.iinc 6 1, 3) := by decide +kernel
theorem dX5_isSame_454 : decode cX5_isSame 454 = .ok (.goto (-26), 3) := by decide +kernel
theorem dX5_isSame_457 : decode cX5_isSame 457 = .ok (.aload_n 1, 1) := by decide +kernel
theorem dX5_isSame_458 : decode cX5_isSame 458 = .ok (.invokevirtual 90, 3) := by decide +kernel
theorem dX5_isSame_461 : decode cX5_isSame 461 = .ok (.aload_n 0, 1) := by decide +kernel
theorem dX5_isSame_462 : decode cX5_isSame 462 = .ok (.getfield 34, 3) := by decide +kernel
theorem dX5_isSame_465 : decode cX5_isSame 465 = .ok (.arraylength, 1) := by decide +kernel
theorem dX5_isSame_466 : decode cX5_isSame 466 = .ok (.ifCond .ne 7, 3) := by decide +kernel
theorem dX5_isSame_469 : decode cX5_isSame 469 = .ok (.dconst 0, 1) := by decide +kernel
theorem dX5_isSame_470 : decode cX5_isSame 470 = .ok (.goto 15, 3) := by decide +kernel
theorem dX5_isSame_473 : decode cX5_isSame 473 = .ok (.iload_n 3, 1) := by decide +kernel
theorem dX5_isSame_474 : decode cX5_isSame 474 = .ok (.i2d, 1) := by decide +kernel
theorem dX5_isSame_475 : decode cX5_isSame 475 = .ok (.bipush 30, 2) := by decide +kernel
theorem dX5_isSame_477 : decode cX5_isSame 477 = .ok (.aload_n 0, 1) := by decide +kernel
theorem dX5_isSame_478 : decode cX5_isSame 478 = .ok (.getfield 34, 3) := by decide +kernel
theorem dX5_isSame_481 : decode cX5_isSame 481 = .ok (.arraylength, 1) := by decide +kernel
theorem dX5_isSame_482 : decode cX5_isSame 482 = .ok (.imul, 1) := by decide +kernel
theorem dX5_isSame_483 : decode cX5_isSame 483 = .ok (.i2d, 1) := by decide +kernel
theorem dX5_isSame_484 : decode cX5_isSame 484 = .ok (.ddiv, 1) := by decide +kernel
theorem dX5_isSame_485 : decode cX5_isSame 485 = .ok (.dcmp .l, 1) := by decide +kernel
theorem dX5_isSame_486 : decode cX5_isSame 486 = .ok (.ifCond .ne 7, 3) := by decide +kernel
theorem dX5_isSame_489 : decode cX5_isSame 489 = .ok (.iconst 1, 1) := by decide +kernel
theorem dX5_isSame_490 : decode cX5_isSame 490 = .ok (.goto 4, 3) := by decide +kernel
theorem dX5_isSame_493 : decode cX5_isSame 493 = .ok (.iconst 0, 1) := by decide +kernel
theorem dX5_isSame_494 : decode cX5_isSame 494 = .ok (.ireturn, 1) := by decide +kernel
theorem dJ9_max_7cf53_0 : decode cJ9_max_7cf53 0 = .ok (.iload_n 0, 1) := by decide +kernel
theorem dJ9_max_7cf53_1 : decode cJ9_max_7cf53 1 = .ok (.iload_n 1, 1) := by decide +kernel
theorem dJ9_max_7cf53_2 : decode cJ9_max_7cf53 2 = .ok (.if_icmp .lt 7, 3) := by decide +kernel
theorem dJ9_max_7cf53_5 : decode cJ9_max_7cf53 5 = .ok (.iload_n 0, 1) := by decide +kernel
theorem dJ9_max_7cf53_6 : decode cJ9_max_7cf53 6 = .ok (.goto 4, 3) := by decide +kernel
theorem dJ9_max_7cf53_9 : decode cJ9_max_7cf53 9 = .ok (.iload_n 1, 1) := by decide +kernel
theorem dJ9_max_7cf53_10 : decode cJ9_max_7cf53 10 = .ok (.ireturn, 1) := by decide +kernel
theorem dJ9_min_7cf53_0 : decode cJ9_min_7cf53 0 = .ok (.iload_n 0, 1) := by decide +kernel
theorem dJ9_min_7cf53_1 : decode cJ9_min_7cf53 1 = .ok (.iload_n 1, 1) := by decide +kernel
theorem dJ9_min_7cf53_2 : decode cJ9_min_7cf53 2 = .ok (.if_icmp .gt 7, 3) := by decide +kernel
theorem dJ9_min_7cf53_5 : decode cJ9_min_7cf53 5 = .ok (.iload_n 0, 1) := by decide +kernel
theorem dJ9_min_7cf53_6 : decode cJ9_min_7cf53 6 = .ok (.goto 4, 3) := by decide +kernel
theorem dJ9_min_7cf53_9 : decode cJ9_min_7cf53 9 = .ok (.iload_n 1, 1) := by decide +kernel
theorem dJ9_min_7cf53_10 : decode cJ9_min_7cf53 10 = .ok (.ireturn, 1) := by decide +kernel
theorem dL_below_0 : decode cL_below 0 = .ok (.iload_n 0, 1) := by decide +kernel
theorem dL_below_1 : decode cL_below 1 = .ok (.ldc 7, 2) := by decide +kernel
theorem dL_below_3 : decode cL_below 3 = .ok (.iand, 1) := by decide +kernel
theorem dL_below_4 : decode cL_below 4 = .ok (.iload_n 1, 1) := by decide +kernel
theorem dL_below_5 : decode cL_below 5 = .ok (.irem, 1) := by decide +kernel
theorem dL_below_6 : decode cL_below 6 = .ok (.ireturn, 1) := by decide +kernel
theorem dL_cell_0 : decode cL_cell 0 = .ok (.iload_n 1, 1) := by decide +kernel
theorem dL_cell_1 : decode cL_cell 1 = .ok (.aload_n 0, 1) := by decide +kernel
theorem dL_cell_2 : decode cL_cell 2 = .ok (.arraylength, 1) := by decide +kernel
theorem dL_cell_3 : decode cL_cell 3 = .ok (.if_icmp .ge 9, 3) := by decide +kernel
theorem dL_cell_6 : decode cL_cell 6 = .ok (.aload_n 0, 1) := by decide +kernel
theorem dL_cell_7 : decode cL_cell 7 = .ok (.iload_n 1, 1) := by decide +kernel
theorem dL_cell_8 : decode cL_cell 8 = .ok (.iaload, 1) := by decide +kernel
theorem dL_cell_9 : decode cL_cell 9 = .ok (.goto 9, 3) := by decide +kernel
theorem dL_cell_12 : decode cL_cell 12 = .ok (.ldc 8, 2) := by decide +kernel
theorem dL_cell_14 : decode cL_cell 14 = .ok (.iload_n 1, 1) := by decide +kernel
theorem dL_cell_15 : decode cL_cell 15 = .ok (.iconst 3, 1) := by decide +kernel
theorem dL_cell_16 : decode cL_cell 16 = .ok (.iadd, 1) := by decide +kernel
theorem dL_cell_17 : decode cL_cell 17 = .ok (.imul, 1) := by decide +kernel
theorem dL_cell_18 : decode cL_cell 18 = .ok (.ireturn, 1) := by decide +kernel
set_option maxRecDepth 20000 in
theorem ggL_act_L_below : GoodIn wsL_act wsL_below := goodIn_r _ [22, 23] (by decide +kernel) (by decide +kernel)
set_option maxRecDepth 20000 in
theorem gL_act_L_below : GoodIn wsL_act (va_wsS RL 15 yL_below wsL_below) := goodIn_app (goodIn_of _ (by decide +kernel)) ggL_act_L_below
set_option maxRecDepth 20000 in
theorem ggL_act_X4_setFeed : GoodIn wsL_act wsX4_setFeed := goodIn_ca (goodIn_r _ [28, 29, 30, 31, 32, 33, 27, 34, 170, 171, 172, 173, 174, 175, 176, 177, 178, 179, 180, 181] (by decide +kernel) (by decide +kernel)) (goodIn_sub (fun _ h => List.mem_cons_of_mem _ (List.mem_append_left _ (List.mem_append_left _ (List.mem_append_right _ h)))) (by decide +kernel))
set_option maxRecDepth 20000 in
theorem gL_act_X4_setFeed : GoodIn wsL_act (wsV RL 28 RX4 yX4_setFeed wsX4_setFeed) := goodIn_app (goodIn_of _ (by decide +kernel)) ggL_act_X4_setFeed
set_option maxRecDepth 20000 in
theorem ggL_act_X4_align : GoodIn wsL_act wsX4_align := goodIn_r _ [38, 31, 170, 171, 172, 173, 174, 175, 176, 177, 178, 179, 180, 181] (by decide +kernel) (by decide +kernel)
set_option maxRecDepth 20000 in
theorem gL_act_X4_align : GoodIn wsL_act (wsV RL 36 RX4 yX4_align wsX4_align) := goodIn_app (goodIn_of _ (by decide +kernel)) ggL_act_X4_align
set_option maxRecDepth 20000 in
theorem ggL_act_X4_roll : GoodIn wsL_act wsX4_roll := goodIn_ca (goodIn_r _ [42, 29, 30, 31, 32, 33, 27, 34, 170, 171, 172, 173, 174, 175, 176, 177, 178, 179, 180, 181] (by decide +kernel) (by decide +kernel)) (goodIn_sub (fun _ h => List.mem_cons_of_mem _ (List.mem_append_left _ (List.mem_append_left _ (List.mem_append_right _ h)))) (by decide +kernel))
set_option maxRecDepth 20000 in
theorem gL_act_X4_roll : GoodIn wsL_act (wsV RL 49 RX4 yX4_roll wsX4_roll) := goodIn_app (goodIn_of _ (by decide +kernel)) ggL_act_X4_roll
set_option maxRecDepth 20000 in
theorem ggL_act_X4_fit : GoodIn wsL_act wsX4_fit := goodIn_ca (goodIn_ca (goodIn_r _ [46, 29, 30, 31, 47, 48, 27, 49, 50, 51, 32, 33, 34, 170, 171, 172, 173, 174, 175, 176, 177, 178, 179, 180, 181, 182, 183] (by decide +kernel) (by decide +kernel)) (goodIn_sub (fun _ h => List.mem_cons_of_mem _ (List.mem_append_left _ (List.mem_append_left _ (List.mem_append_right _ h)))) (by decide +kernel))) (goodIn_sub (fun _ h => List.mem_cons_of_mem _ (List.mem_append_left _ (List.mem_append_right _ h))) (by decide +kernel))
set_option maxRecDepth 20000 in
theorem gL_act_X4_fit : GoodIn wsL_act (wsV RL 68 RX4 yX4_fit wsX4_fit) := goodIn_app (goodIn_of _ (by decide +kernel)) ggL_act_X4_fit
set_option maxRecDepth 20000 in
theorem ggL_act_X4_turn : GoodIn wsL_act wsX4_turn := goodIn_ca (goodIn_r _ [55, 56, 57, 58, 27, 59, 50, 51, 32, 33, 34, 170, 171, 172, 173, 174] (by decide +kernel) (by decide +kernel)) (goodIn_sub (fun _ h => List.mem_cons_of_mem _ (List.mem_append_left _ (List.mem_append_right _ h))) (by decide +kernel))
set_option maxRecDepth 20000 in
theorem gL_act_X4_turn : GoodIn wsL_act (wsV RL 75 RX4 yX4_turn wsX4_turn) := goodIn_app (goodIn_of _ (by decide +kernel)) ggL_act_X4_turn
set_option maxRecDepth 20000 in
theorem ggL_act_X4_run : GoodIn wsL_act wsX4_run := goodIn_ca (goodIn_r _ [63, 64, 65, 66, 31, 56, 67, 68, 69, 70, 71, 72, 73, 74, 75, 76, 77, 78, 79, 80, 81, 82, 83, 84, 85, 86, 87, 88, 33, 27, 34, 89, 90, 91, 92, 93, 94, 95, 96, 97, 98, 99, 100, 101, 102, 103, 104, 105, 106, 107, 108, 109, 110, 111, 112, 113, 114, 170, 171, 172, 173, 174, 175, 176, 177, 178, 179, 180, 181, 184, 185, 182, 183] (by decide +kernel) (by decide +kernel)) (goodIn_sub (fun _ h => List.mem_cons_of_mem _ (List.mem_append_right _ h)) (by decide +kernel))
set_option maxRecDepth 20000 in
theorem gL_act_X4_run : GoodIn wsL_act (wsV RL 79 RX4 yX4_run wsX4_run) := goodIn_app (goodIn_of _ (by decide +kernel)) ggL_act_X4_run
set_option maxRecDepth 20000 in
theorem ggL_act_X5_run : GoodIn wsL_act wsX5_run := goodIn_r _ [119, 120, 121, 122, 123, 124, 125, 126, 127, 118, 128, 129, 130, 131, 132, 133, 134, 135, 136, 137, 138, 139, 158, 159, 160, 161, 162, 163, 164, 165, 166, 167, 168, 169] (by decide +kernel) (by decide +kernel)
set_option maxRecDepth 20000 in
theorem gL_act_X5_run : GoodIn wsL_act (wsV RL 82 RX5 yX5_run wsX5_run) := goodIn_app (goodIn_of _ (by decide +kernel)) ggL_act_X5_run
set_option maxRecDepth 20000 in
theorem ggL_act_X5_worth : GoodIn wsL_act wsX5_worth := goodIn_r _ [142] (by decide +kernel) (by decide +kernel)
set_option maxRecDepth 20000 in
theorem gL_act_X5_worth : GoodIn wsL_act (va_wsS RL 87 yX5_worth wsX5_worth) := goodIn_app (goodIn_of _ (by decide +kernel)) ggL_act_X5_worth
set_option maxRecDepth 20000 in
theorem ggL_act_X4_tear : GoodIn wsL_act wsX4_tear := goodIn_ca (goodIn_ca (goodIn_r _ [146, 64, 65, 67, 147, 148, 149, 27, 150, 50, 51, 66, 32, 33, 34, 57, 58, 59, 151, 152, 153, 154, 155, 156, 157, 170, 171, 172, 173, 174, 184, 185] (by decide +kernel) (by decide +kernel)) (goodIn_sub (fun _ h => List.mem_cons_of_mem _ (List.mem_append_right _ h)) (by decide +kernel))) (goodIn_sub (fun _ h => List.mem_cons_of_mem _ (List.mem_append_left _ (List.mem_append_right _ h))) (by decide +kernel))
set_option maxRecDepth 20000 in
theorem gL_act_X4_tear : GoodIn wsL_act (wsV RL 91 RX4 yX4_tear wsX4_tear) := goodIn_app (goodIn_of _ (by decide +kernel)) ggL_act_X4_tear
