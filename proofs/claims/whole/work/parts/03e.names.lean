theorem dX5_sheetTold_120 : decode cX5_sheetTold 120 = .ok (.iload 4, 2) := by decide +kernel
theorem dX5_sheetTold_122 : decode cX5_sheetTold 122 = .ok (.iload 6, 2) := by decide +kernel
theorem dX5_sheetTold_124 : decode cX5_sheetTold 124 = .ok (.iconst 1, 1) := by decide +kernel
theorem dX5_sheetTold_125 : decode cX5_sheetTold 125 = .ok (.iand, 1) := by decide +kernel
theorem dX5_sheetTold_126 : decode cX5_sheetTold 126 = .ok (.iadd, 1) := by decide +kernel
theorem dX5_sheetTold_127 : decode cX5_sheetTold 127 = .ok (.istore 4, 2) := by decide +kernel
theorem dX5_sheetTold_129 : decode cX5_sheetTold 129 = .ok (.iinc 5 1, 3) := by decide +kernel
theorem dX5_sheetTold_132 : decode cX5_sheetTold 132 = .ok (.goto (-99), 3) := by decide +kernel
theorem dX5_sheetTold_135 : decode cX5_sheetTold 135 = .ok (.iload 4, 2) := by decide +kernel
theorem dX5_sheetTold_137 : decode cX5_sheetTold 137 = .ok (.ireturn, 1) := by decide +kernel
set_option maxRecDepth 20000 in
theorem ggX5_sheet_X5_isSheet : GoodIn wsX5_sheet wsX5_isSheet := goodIn_r _ [6, 7, 8, 9, 5, 10, 39, 40, 41, 42, 43, 44, 45, 46] (by decide +kernel) (by decide +kernel)
set_option maxRecDepth 20000 in
theorem gX5_sheet_X5_isSheet : GoodIn wsX5_sheet (wsV RX5 74 RX5 yX5_isSheet wsX5_isSheet) := goodIn_app (goodIn_of _ (by decide +kernel)) ggX5_sheet_X5_isSheet
set_option maxRecDepth 20000 in
theorem ggX5_sheet_X5_isIn : GoodIn wsX5_sheet wsX5_isIn := goodIn_r _ [10] (by decide +kernel) (by decide +kernel)
set_option maxRecDepth 20000 in
theorem gX5_sheet_X5_isIn : GoodIn wsX5_sheet (va_wsS RX5 36 yX5_isIn wsX5_isIn) := goodIn_app (goodIn_of _ (by decide +kernel)) ggX5_sheet_X5_isIn
set_option maxRecDepth 20000 in
theorem ggX5_sheet_X5_sheetTold : GoodIn wsX5_sheet wsX5_sheetTold := goodIn_r _ [14, 15, 16, 17, 18, 5, 19, 20, 21, 22, 23, 24, 25, 26, 27, 28, 29, 30, 31, 32, 33, 34, 39, 40, 41, 42, 43, 44, 45, 46] (by decide +kernel) (by decide +kernel)
set_option maxRecDepth 20000 in
theorem gX5_sheet_X5_sheetTold : GoodIn wsX5_sheet (wsV RX5 90 RX5 yX5_sheetTold wsX5_sheetTold) := goodIn_app (goodIn_of _ (by decide +kernel)) ggX5_sheet_X5_sheetTold
set_option maxRecDepth 20000 in
theorem ggX5_sheet_X5_fail : GoodIn wsX5_sheet wsX5_fail := goodIn_r _ [38, 1, 39, 40, 41, 42, 43, 44, 45, 46] (by decide +kernel) (by decide +kernel)
set_option maxRecDepth 20000 in
theorem gX5_sheet_X5_fail : GoodIn wsX5_sheet (wsV RX5 40 RX5 yX5_fail wsX5_fail) := goodIn_app (goodIn_of _ (by decide +kernel)) ggX5_sheet_X5_fail
theorem dX5_sheet_0 : decode cX5_sheet 0 = .ok (.aload_n 0, 1) := by decide +kernel
theorem dX5_sheet_1 : decode cX5_sheet 1 = .ok (.iconst 0, 1) := by decide +kernel
theorem dX5_sheet_2 : decode cX5_sheet 2 = .ok (.putfield 29, 3) := by decide +kernel
theorem dX5_sheet_5 : decode cX5_sheet 5 = .ok (.aload_n 0, 1) := by decide +kernel
theorem dX5_sheet_6 : decode cX5_sheet 6 = .ok (.iload_n 1, 1) := by decide +kernel
theorem dX5_sheet_7 : decode cX5_sheet 7 = .ok (.invokevirtual 74, 3) := by decide +kernel
theorem dX5_sheet_10 : decode cX5_sheet 10 = .ok (.ifCond .eq 21, 3) := by decide +kernel
theorem dX5_sheet_13 : decode cX5_sheet 13 = .ok (.iload_n 2, 1) := by decide +kernel
theorem dX5_sheet_14 : decode cX5_sheet 14 = .ok (.iconst 0, 1) := by decide +kernel
theorem dX5_sheet_15 : decode cX5_sheet 15 = .ok (.iconst 5, 1) := by decide +kernel
theorem dX5_sheet_16 : decode cX5_sheet 16 = .ok (.invokestatic 36, 3) := by decide +kernel
theorem dX5_sheet_19 : decode cX5_sheet 19 = .ok (.ifCond .eq 12, 3) := by decide +kernel
theorem dX5_sheet_22 : decode cX5_sheet 22 = .ok (.aload_n 0, 1) := by decide +kernel
theorem dX5_sheet_23 : decode cX5_sheet 23 = .ok (.iload_n 1, 1) := by decide +kernel
theorem dX5_sheet_24 : decode cX5_sheet 24 = .ok (.iload_n 2, 1) := by decide +kernel
theorem dX5_sheet_25 : decode cX5_sheet 25 = .ok (.invokevirtual 90, 3) := by decide +kernel
theorem dX5_sheet_28 : decode cX5_sheet 28 = .ok (.goto 8, 3) := by decide +kernel
theorem dX5_sheet_31 : decode cX5_sheet 31 = .ok (.aload_n 0, 1) := by decide +kernel
theorem dX5_sheet_32 : decode cX5_sheet 32 = .ok (.iconst 1, 1) := by decide +kernel
theorem dX5_sheet_33 : decode cX5_sheet 33 = .ok (.invokevirtual 40, 3) := by decide +kernel
theorem dX5_sheet_36 : decode cX5_sheet 36 = .ok (.ireturn, 1) := by decide +kernel
set_option maxRecDepth 20000 in
theorem ggX5_pinTold_X5_isWhole : GoodIn wsX5_pinTold wsX5_isWhole := goodIn_r _ [7, 2, 1, 8, 9, 10, 11, 12, 13, 14, 15] (by decide +kernel) (by decide +kernel)
set_option maxRecDepth 20000 in
theorem gX5_pinTold_X5_isWhole : GoodIn wsX5_pinTold (wsV RX5 48 RX5 yX5_isWhole wsX5_isWhole) := goodIn_app (goodIn_of _ (by decide +kernel)) ggX5_pinTold_X5_isWhole
theorem dX5_pinTold_0 : decode cX5_pinTold 0 = .ok (.iload_n 2, 1) := by decide +kernel
theorem dX5_pinTold_1 : decode cX5_pinTold 1 = .ok (.ifCond .ne 12, 3) := by decide +kernel
theorem dX5_pinTold_4 : decode cX5_pinTold 4 = .ok (.aload_n 0, 1) := by decide +kernel
theorem dX5_pinTold_5 : decode cX5_pinTold 5 = .ok (.getfield 16, 3) := by decide +kernel
theorem dX5_pinTold_8 : decode cX5_pinTold 8 = .ok (.iload_n 1, 1) := by decide +kernel
theorem dX5_pinTold_9 : decode cX5_pinTold 9 = .ok (.iaload, 1) := by decide +kernel
theorem dX5_pinTold_10 : decode cX5_pinTold 10 = .ok (.goto 53, 3) := by decide +kernel
theorem dX5_pinTold_13 : decode cX5_pinTold 13 = .ok (.iload_n 2, 1) := by decide +kernel
theorem dX5_pinTold_14 : decode cX5_pinTold 14 = .ok (.iconst 1, 1) := by decide +kernel
theorem dX5_pinTold_15 : decode cX5_pinTold 15 = .ok (.if_icmp .ne 12, 3) := by decide +kernel
theorem dX5_pinTold_18 : decode cX5_pinTold 18 = .ok (.aload_n 0, 1) := by decide +kernel
theorem dX5_pinTold_19 : decode cX5_pinTold 19 = .ok (.getfield 19, 3) := by decide +kernel
theorem dX5_pinTold_22 : decode cX5_pinTold 22 = .ok (.iload_n 1, 1) := by decide +kernel
theorem dX5_pinTold_23 : decode cX5_pinTold 23 = .ok (.iaload, 1) := by decide +kernel
theorem dX5_pinTold_24 : decode cX5_pinTold 24 = .ok (.goto 39, 3) := by decide +kernel
theorem dX5_pinTold_27 : decode cX5_pinTold 27 = .ok (.iload_n 2, 1) := by decide +kernel
theorem dX5_pinTold_28 : decode cX5_pinTold 28 = .ok (.iconst 2, 1) := by decide +kernel
theorem dX5_pinTold_29 : decode cX5_pinTold 29 = .ok (.if_icmp .ne 19, 3) := by decide +kernel
theorem dX5_pinTold_32 : decode cX5_pinTold 32 = .ok (.aload_n 0, 1) := by decide +kernel
theorem dX5_pinTold_33 : decode cX5_pinTold 33 = .ok (.iload_n 1, 1) := by decide +kernel
theorem dX5_pinTold_34 : decode cX5_pinTold 34 = .ok (.invokevirtual 48, 3) := by decide +kernel
theorem dX5_pinTold_37 : decode cX5_pinTold 37 = .ok (.ifCond .eq 7, 3) := by decide +kernel
theorem dX5_pinTold_40 : decode cX5_pinTold 40 = .ok (.iconst 1, 1) := by decide +kernel
theorem dX5_pinTold_41 : decode cX5_pinTold 41 = .ok (.goto 22, 3) := by decide +kernel
theorem dX5_pinTold_44 : decode cX5_pinTold 44 = .ok (.iconst 0, 1) := by decide +kernel
theorem dX5_pinTold_45 : decode cX5_pinTold 45 = .ok (.goto 18, 3) := by decide +kernel
theorem dX5_pinTold_48 : decode cX5_pinTold 48 = .ok (.aload_n 0, 1) := by decide +kernel
theorem dX5_pinTold_49 : decode cX5_pinTold 49 = .ok (.getfield 16, 3) := by decide +kernel
theorem dX5_pinTold_52 : decode cX5_pinTold 52 = .ok (.iload_n 1, 1) := by decide +kernel
theorem dX5_pinTold_53 : decode cX5_pinTold 53 = .ok (.iaload, 1) := by decide +kernel
theorem dX5_pinTold_54 : decode cX5_pinTold 54 = .ok (.iconst 1, 1) := by decide +kernel
theorem dX5_pinTold_55 : decode cX5_pinTold 55 = .ok (.iadd, 1) := by decide +kernel
theorem dX5_pinTold_56 : decode cX5_pinTold 56 = .ok (.aload_n 0, 1) := by decide +kernel
theorem dX5_pinTold_57 : decode cX5_pinTold 57 = .ok (.getfield 19, 3) := by decide +kernel
theorem dX5_pinTold_60 : decode cX5_pinTold 60 = .ok (.iload_n 1, 1) := by decide +kernel
theorem dX5_pinTold_61 : decode cX5_pinTold 61 = .ok (.iaload, 1) := by decide +kernel
theorem dX5_pinTold_62 : decode cX5_pinTold 62 = .ok (.isub, 1) := by decide +kernel
theorem dX5_pinTold_63 : decode cX5_pinTold 63 = .ok (.ireturn, 1) := by decide +kernel
set_option maxRecDepth 20000 in
theorem ggX5_pin_X5_isIn : GoodIn wsX5_pin wsX5_isIn := goodIn_r _ [5] (by decide +kernel) (by decide +kernel)
set_option maxRecDepth 20000 in
theorem gX5_pin_X5_isIn : GoodIn wsX5_pin (va_wsS RX5 36 yX5_isIn wsX5_isIn) := goodIn_app (goodIn_of _ (by decide +kernel)) ggX5_pin_X5_isIn
set_option maxRecDepth 20000 in
theorem ggX5_pin_X5_pinTold : GoodIn wsX5_pin wsX5_pinTold := goodIn_r _ [9, 10, 11, 12, 13, 14, 4, 15, 20, 21, 22, 23, 24, 25, 26, 27] (by decide +kernel) (by decide +kernel)
set_option maxRecDepth 20000 in
theorem gX5_pin_X5_pinTold : GoodIn wsX5_pin (wsV RX5 93 RX5 yX5_pinTold wsX5_pinTold) := goodIn_app (goodIn_of _ (by decide +kernel)) ggX5_pin_X5_pinTold
set_option maxRecDepth 20000 in
theorem ggX5_pin_X5_fail : GoodIn wsX5_pin wsX5_fail := goodIn_r _ [19, 1, 20, 21, 22, 23, 24, 25, 26, 27] (by decide +kernel) (by decide +kernel)
set_option maxRecDepth 20000 in
theorem gX5_pin_X5_fail : GoodIn wsX5_pin (wsV RX5 40 RX5 yX5_fail wsX5_fail) := goodIn_app (goodIn_of _ (by decide +kernel)) ggX5_pin_X5_fail
theorem dX5_pin_0 : decode cX5_pin 0 = .ok (.aload_n 0, 1) := by decide +kernel
theorem dX5_pin_1 : decode cX5_pin 1 = .ok (.iconst 0, 1) := by decide +kernel
theorem dX5_pin_2 : decode cX5_pin 2 = .ok (.putfield 29, 3) := by decide +kernel
theorem dX5_pin_5 : decode cX5_pin 5 = .ok (.iload_n 1, 1) := by decide +kernel
theorem dX5_pin_6 : decode cX5_pin 6 = .ok (.iconst 0, 1) := by decide +kernel
theorem dX5_pin_7 : decode cX5_pin 7 = .ok (.bipush 6, 2) := by decide +kernel
theorem dX5_pin_9 : decode cX5_pin 9 = .ok (.invokestatic 36, 3) := by decide +kernel
theorem dX5_pin_12 : decode cX5_pin 12 = .ok (.ifCond .eq 21, 3) := by decide +kernel
theorem dX5_pin_15 : decode cX5_pin 15 = .ok (.iload_n 2, 1) := by decide +kernel
theorem dX5_pin_16 : decode cX5_pin 16 = .ok (.iconst 0, 1) := by decide +kernel
theorem dX5_pin_17 : decode cX5_pin 17 = .ok (.iconst 3, 1) := by decide +kernel
theorem dX5_pin_18 : decode cX5_pin 18 = .ok (.invokestatic 36, 3) := by decide +kernel
theorem dX5_pin_21 : decode cX5_pin 21 = .ok (.ifCond .eq 12, 3) := by decide +kernel
theorem dX5_pin_24 : decode cX5_pin 24 = .ok (.aload_n 0, 1) := by decide +kernel
theorem dX5_pin_25 : decode cX5_pin 25 = .ok (.iload_n 1, 1) := by decide +kernel
theorem dX5_pin_26 : decode cX5_pin 26 = .ok (.iload_n 2, 1) := by decide +kernel
theorem dX5_pin_27 : decode cX5_pin 27 = .ok (.invokevirtual 93, 3) := by decide +kernel
theorem dX5_pin_30 : decode cX5_pin 30 = .ok (.goto 8, 3) := by decide +kernel
theorem dX5_pin_33 : decode cX5_pin 33 = .ok (.aload_n 0, 1) := by decide +kernel
theorem dX5_pin_34 : decode cX5_pin 34 = .ok (.iconst 1, 1) := by decide +kernel
theorem dX5_pin_35 : decode cX5_pin 35 = .ok (.invokevirtual 40, 3) := by decide +kernel
theorem dX5_pin_38 : decode cX5_pin 38 = .ok (.ireturn, 1) := by decide +kernel
set_option maxRecDepth 20000 in
theorem ggX5_broken_X5_isWhole : GoodIn wsX5_broken wsX5_isWhole := goodIn_r _ [5, 6, 7, 8, 9, 10, 11, 12, 13, 14, 15] (by decide +kernel) (by decide +kernel)
set_option maxRecDepth 20000 in
theorem gX5_broken_X5_isWhole : GoodIn wsX5_broken (wsV RX5 48 RX5 yX5_isWhole wsX5_isWhole) := goodIn_app (goodIn_of _ (by decide +kernel)) ggX5_broken_X5_isWhole
theorem dX5_broken_0 : decode cX5_broken 0 = .ok (.iconst 0, 1) := by decide +kernel
theorem dX5_broken_1 : decode cX5_broken 1 = .ok (.istore_n 1, 1) := by decide +kernel
theorem dX5_broken_2 : decode cX5_broken 2 = .ok (.iconst 0, 1) := by decide +kernel
theorem dX5_broken_3 : decode cX5_broken 3 = .ok (.istore_n 2, 1) := by decide +kernel
theorem dX5_broken_4 : decode cX5_broken 4 = .ok (.iload_n 2, 1) := by decide +kernel
theorem dX5_broken_5 : decode cX5_broken 5 = .ok (.bipush 7, 2) := by decide +kernel
theorem dX5_broken_7 : decode cX5_broken 7 = .ok (.if_icmp .ge 25, 3) := by decide +kernel
theorem dX5_broken_10 : decode cX5_broken 10 = .ok (.iload_n 1, 1) := by decide +kernel
theorem dX5_broken_11 : decode cX5_broken 11 = .ok (.aload_n 0, 1) := by decide +kernel
theorem dX5_broken_12 : decode cX5_broken 12 = .ok (.iload_n 2, 1) := by decide +kernel
theorem dX5_broken_13 : decode cX5_broken 13 = .ok (.invokevirtual 48, 3) := by decide +kernel
theorem dX5_broken_16 : decode cX5_broken 16 = .ok (.ifCond .eq 7, 3) := by decide +kernel
theorem dX5_broken_19 : decode cX5_broken 19 = .ok (.iconst 0, 1) := by decide +kernel
theorem dX5_broken_20 : decode cX5_broken 20 = .ok (.goto 4, 3) := by decide +kernel
theorem dX5_broken_23 : decode cX5_broken 23 = .ok (.iconst 1, 1) := by decide +kernel
theorem dX5_broken_24 : decode cX5_broken 24 = .ok (.iadd, 1) := by decide +kernel
theorem dX5_broken_25 : decode cX5_broken 25 = .ok (.istore_n 1, 1) := by decide +kernel
theorem dX5_broken_26 : decode cX5_broken 26 = .ok (.iinc 2 1, 3) := by decide +kernel
theorem dX5_broken_29 : decode cX5_broken 29 = .ok (.goto (-25), 3) := by decide +kernel
theorem dX5_broken_32 : decode cX5_broken 32 = .ok (.iload_n 1, 1) := by decide +kernel
theorem dX5_broken_33 : decode cX5_broken 33 = .ok (.ireturn, 1) := by decide +kernel
set_option maxRecDepth 20000 in
theorem ggX5_counted_X5_broken : GoodIn wsX5_counted wsX5_broken := goodIn_r _ [8, 9, 10, 11, 7, 12, 13, 14, 39, 40, 41, 42, 43, 44, 45, 46] (by decide +kernel) (by decide +kernel)
set_option maxRecDepth 20000 in
theorem gX5_counted_X5_broken : GoodIn wsX5_counted (wsV RX5 96 RX5 yX5_broken wsX5_broken) := goodIn_app (goodIn_of _ (by decide +kernel)) ggX5_counted_X5_broken
set_option maxRecDepth 20000 in
theorem ggX5_counted_X5_sheetTold : GoodIn wsX5_counted wsX5_sheetTold := goodIn_r _ [18, 19, 20, 21, 22, 7, 23, 24, 25, 26, 27, 28, 29, 30, 31, 32, 33, 34, 35, 36, 37, 38, 39, 40, 41, 42, 43, 44, 45, 46] (by decide +kernel) (by decide +kernel)
set_option maxRecDepth 20000 in
theorem gX5_counted_X5_sheetTold : GoodIn wsX5_counted (wsV RX5 90 RX5 yX5_sheetTold wsX5_sheetTold) := goodIn_app (goodIn_of _ (by decide +kernel)) ggX5_counted_X5_sheetTold
theorem dX5_counted_0 : decode cX5_counted 0 = .ok (.iconst 0, 1) := by decide +kernel
theorem dX5_counted_1 : decode cX5_counted 1 = .ok (.istore_n 2, 1) := by decide +kernel
theorem dX5_counted_2 : decode cX5_counted 2 = .ok (.iload_n 1, 1) := by decide +kernel
theorem dX5_counted_3 : decode cX5_counted 3 = .ok (.tableswitch 136 0 9 #[53, 136, 136, 136, 136, 136, 136, 58, 63, 109], 53) := by decide +kernel
theorem dX5_counted_56 : decode cX5_counted 56 = .ok (.aload_n 0, 1) := by decide +kernel
theorem dX5_counted_57 : decode cX5_counted 57 = .ok (.getfield 33, 3) := by decide +kernel
theorem dX5_counted_60 : decode cX5_counted 60 = .ok (.ireturn, 1) := by decide +kernel
theorem dX5_counted_61 : decode cX5_counted 61 = .ok (.aload_n 0, 1) := by decide +kernel
theorem dX5_counted_62 : decode cX5_counted 62 = .ok (.invokevirtual 96, 3) := by decide +kernel
theorem dX5_counted_65 : decode cX5_counted 65 = .ok (.ireturn, 1) := by decide +kernel
theorem dX5_counted_66 : decode cX5_counted 66 = .ok (.aload_n 0, 1) := by decide +kernel
theorem dX5_counted_67 : decode cX5_counted 67 = .ok (.getfield 22, 3) := by decide +kernel
theorem dX5_counted_70 : decode cX5_counted 70 = .ok (.astore_n 3, 1) := by decide +kernel
theorem dX5_counted_71 : decode cX5_counted 71 = .ok (.aload_n 3, 1) := by decide +kernel
theorem dX5_counted_72 : decode cX5_counted 72 = .ok (.arraylength, 1) := by decide +kernel
theorem dX5_counted_73 : decode cX5_counted 73 = .ok (.istore 4, 2) := by decide +kernel
theorem dX5_counted_75 : decode cX5_counted 75 = .ok (.iconst 0, 1) := by decide +kernel
theorem dX5_counted_76 : decode cX5_counted 76 = .ok (.istore 5, 2) := by decide +kernel
theorem dX5_counted_78 : decode cX5_counted 78 = .ok (.iload 5, 2) := by decide +kernel
theorem dX5_counted_80 : decode cX5_counted 80 = .ok (.iload 4, 2) := by decide +kernel
theorem dX5_counted_82 : decode cX5_counted 82 = .ok (.if_icmp .ge 28, 3) := by decide +kernel
theorem dX5_counted_85 : decode cX5_counted 85 = .ok (.aload_n 3, 1) := by decide +kernel
theorem dX5_counted_86 : decode cX5_counted 86 = .ok (.iload 5, 2) := by decide +kernel
theorem dX5_counted_88 : decode cX5_counted 88 = .ok (.baload, 1) := by decide +kernel
theorem dX5_counted_89 : decode cX5_counted 89 = .ok (.istore 6, 2) := by decide +kernel
theorem dX5_counted_91 : decode cX5_counted 91 = .ok (.iload_n 2, 1) := by decide +kernel
theorem dX5_counted_92 : decode cX5_counted 92 = .ok (.iload 6, 2) := by decide +kernel
theorem dX5_counted_94 : decode cX5_counted 94 = .ok (.ifCond .eq 7, 3) := by decide +kernel
theorem dX5_counted_97 : decode cX5_counted 97 = .ok (.iconst 1, 1) := by decide +kernel
theorem dX5_counted_98 : decode cX5_counted 98 = .ok (.goto 4, 3) := by decide +kernel
theorem dX5_counted_101 : decode cX5_counted 101 = .ok (.iconst 0, 1) := by decide +kernel
theorem dX5_counted_102 : decode cX5_counted 102 = .ok (.iadd, 1) := by decide +kernel
theorem dX5_counted_103 : decode cX5_counted 103 = .ok (.istore_n 2, 1) := by decide +kernel
theorem dX5_counted_104 : decode cX5_counted 104 = .ok (.iinc 5 1, 3) := by decide +kernel
theorem dX5_counted_107 : decode cX5_counted 107 = .ok (.goto (-29), 3) := by decide +kernel
theorem dX5_counted_110 : decode cX5_counted 110 = .ok (.iload_n 2, 1) := by decide +kernel
theorem dX5_counted_111 : decode cX5_counted 111 = .ok (.ireturn, 1) := by decide +kernel
theorem dX5_counted_112 : decode cX5_counted 112 = .ok (.iconst 0, 1) := by decide +kernel
theorem dX5_counted_113 : decode cX5_counted 113 = .ok (.istore_n 3, 1) := by decide +kernel
theorem dX5_counted_114 : decode cX5_counted 114 = .ok (.iload_n 3, 1) := by decide +kernel
theorem dX5_counted_115 : decode cX5_counted 115 = .ok (.aload_n 0, 1) := by decide +kernel
theorem dX5_counted_116 : decode cX5_counted 116 = .ok (.getfield 33, 3) := by decide +kernel
theorem dX5_counted_119 : decode cX5_counted 119 = .ok (.if_icmp .ge 18, 3) := by decide +kernel
theorem dX5_counted_122 : decode cX5_counted 122 = .ok (.iload_n 2, 1) := by decide +kernel
theorem dX5_counted_123 : decode cX5_counted 123 = .ok (.aload_n 0, 1) := by decide +kernel
theorem dX5_counted_124 : decode cX5_counted 124 = .ok (.iload_n 3, 1) := by decide +kernel
theorem dX5_counted_125 : decode cX5_counted 125 = .ok (.iconst 2, 1) := by decide +kernel
theorem dX5_counted_126 : decode cX5_counted 126 = .ok (.invokevirtual 90, 3) := by decide +kernel
theorem dX5_counted_129 : decode cX5_counted 129 = .ok (.iadd, 1) := by decide +kernel
theorem dX5_counted_130 : decode cX5_counted 130 = .ok (.istore_n 2, 1) := by decide +kernel
theorem dX5_counted_131 : decode cX5_counted 131 = .ok (.iinc 3 1, 3) := by decide +kernel
theorem dX5_counted_134 : decode cX5_counted 134 = .ok (.goto (-20), 3) := by decide +kernel
theorem dX5_counted_137 : decode cX5_counted 137 = .ok (.iload_n 2, 1) := by decide +kernel
theorem dX5_counted_138 : decode cX5_counted 138 = .ok (.ireturn, 1) := by decide +kernel
theorem dX5_counted_139 : decode cX5_counted 139 = .ok (.aload_n 0, 1) := by decide +kernel
theorem dX5_counted_140 : decode cX5_counted 140 = .ok (.getfield 13, 3) := by decide +kernel
theorem dX5_counted_143 : decode cX5_counted 143 = .ok (.iload_n 1, 1) := by decide +kernel
theorem dX5_counted_144 : decode cX5_counted 144 = .ok (.iconst 1, 1) := by decide +kernel
theorem dX5_counted_145 : decode cX5_counted 145 = .ok (.isub, 1) := by decide +kernel
theorem dX5_counted_146 : decode cX5_counted 146 = .ok (.iaload, 1) := by decide +kernel
theorem dX5_counted_147 : decode cX5_counted 147 = .ok (.ireturn, 1) := by decide +kernel
set_option maxRecDepth 20000 in
theorem ggX5_count_X5_isIn : GoodIn wsX5_count wsX5_isIn := goodIn_r _ [5] (by decide +kernel) (by decide +kernel)
set_option maxRecDepth 20000 in
theorem gX5_count_X5_isIn : GoodIn wsX5_count (va_wsS RX5 36 yX5_isIn wsX5_isIn) := goodIn_app (goodIn_of _ (by decide +kernel)) ggX5_count_X5_isIn
set_option maxRecDepth 20000 in
theorem ggX5_count_X5_counted : GoodIn wsX5_count wsX5_counted := goodIn_r _ [9, 10, 11, 12, 13, 14, 15, 4, 16, 17, 18, 19, 20, 21, 22, 23, 24, 25, 26, 27, 28, 29, 30, 31, 32, 33, 34, 35, 36, 37, 38, 39, 40, 41, 42, 43, 44, 45, 46, 51, 52, 53, 54, 55, 56, 57, 58] (by decide +kernel) (by decide +kernel)
set_option maxRecDepth 20000 in
theorem gX5_count_X5_counted : GoodIn wsX5_count (wsV RX5 100 RX5 yX5_counted wsX5_counted) := goodIn_app (goodIn_of _ (by decide +kernel)) ggX5_count_X5_counted
set_option maxRecDepth 20000 in
theorem ggX5_count_X5_fail : GoodIn wsX5_count wsX5_fail := goodIn_r _ [50, 1, 51, 52, 53, 54, 55, 56, 57, 58] (by decide +kernel) (by decide +kernel)
set_option maxRecDepth 20000 in
theorem gX5_count_X5_fail : GoodIn wsX5_count (wsV RX5 40 RX5 yX5_fail wsX5_fail) := goodIn_app (goodIn_of _ (by decide +kernel)) ggX5_count_X5_fail
theorem dX5_count_0 : decode cX5_count 0 = .ok (.aload_n 0, 1) := by decide +kernel
theorem dX5_count_1 : decode cX5_count 1 = .ok (.iconst 0, 1) := by decide +kernel
theorem dX5_count_2 : decode cX5_count 2 = .ok (.putfield 29, 3) := by decide +kernel
theorem dX5_count_5 : decode cX5_count 5 = .ok (.iload_n 1, 1) := by decide +kernel
theorem dX5_count_6 : decode cX5_count 6 = .ok (.iconst 0, 1) := by decide +kernel
theorem dX5_count_7 : decode cX5_count 7 = .ok (.bipush 9, 2) := by decide +kernel
theorem dX5_count_9 : decode cX5_count 9 = .ok (.invokestatic 36, 3) := by decide +kernel
theorem dX5_count_12 : decode cX5_count 12 = .ok (.ifCond .eq 11, 3) := by decide +kernel
theorem dX5_count_15 : decode cX5_count 15 = .ok (.aload_n 0, 1) := by decide +kernel
theorem dX5_count_16 : decode cX5_count 16 = .ok (.iload_n 1, 1) := by decide +kernel
theorem dX5_count_17 : decode cX5_count 17 = .ok (.invokevirtual 100, 3) := by decide +kernel
theorem dX5_count_20 : decode cX5_count 20 = .ok (.goto 8, 3) := by decide +kernel
theorem dX5_count_23 : decode cX5_count 23 = .ok (.aload_n 0, 1) := by decide +kernel
theorem dX5_count_24 : decode cX5_count 24 = .ok (.iconst 1, 1) := by decide +kernel
theorem dX5_count_25 : decode cX5_count 25 = .ok (.invokevirtual 40, 3) := by decide +kernel
theorem dX5_count_28 : decode cX5_count 28 = .ok (.ireturn, 1) := by decide +kernel
set_option maxRecDepth 20000 in
theorem ggX5_wouldRun_X5_runSheet : GoodIn wsX5_wouldRun wsX5_runSheet := goodIn_r _ [6, 7, 8, 9, 10, 11, 12, 13, 14, 15, 16, 17, 5, 18, 1, 19, 20, 21, 22, 23, 24, 25, 26, 27, 28, 32, 33, 34, 35, 36, 37, 38, 39] (by decide +kernel) (by decide +kernel)
set_option maxRecDepth 20000 in
theorem gX5_wouldRun_X5_runSheet : GoodIn wsX5_wouldRun (wsV RX5 65 RX5 yX5_runSheet wsX5_runSheet) := goodIn_app (goodIn_of _ (by decide +kernel)) ggX5_wouldRun_X5_runSheet
set_option maxRecDepth 20000 in
theorem ggX5_wouldRun_X5_worth : GoodIn wsX5_wouldRun wsX5_worth := goodIn_r _ [31] (by decide +kernel) (by decide +kernel)
set_option maxRecDepth 20000 in
theorem gX5_wouldRun_X5_worth : GoodIn wsX5_wouldRun (va_wsS RX5 77 yX5_worth wsX5_worth) := goodIn_app (goodIn_of _ (by decide +kernel)) ggX5_wouldRun_X5_worth
theorem dX5_wouldRun_0 : decode cX5_wouldRun 0 = .ok (.iconst 0, 1) := by decide +kernel
theorem dX5_wouldRun_1 : decode cX5_wouldRun 1 = .ok (.istore_n 3, 1) := by decide +kernel
theorem dX5_wouldRun_2 : decode cX5_wouldRun 2 = .ok (.iconst 0, 1) := by decide +kernel
theorem dX5_wouldRun_3 : decode cX5_wouldRun 3 = .ok (.istore 4, 2) := by decide +kernel
theorem dX5_wouldRun_5 : decode cX5_wouldRun 5 = .ok (.iload 4, 2) := by decide +kernel
theorem dX5_wouldRun_7 : decode cX5_wouldRun 7 = .ok (.iload_n 1, 1) := by decide +kernel
theorem dX5_wouldRun_8 : decode cX5_wouldRun 8 = .ok (.if_icmp .ge 72, 3) := by decide +kernel
theorem dX5_wouldRun_11 : decode cX5_wouldRun 11 = .ok (.aload_n 0, 1) := by decide +kernel
theorem dX5_wouldRun_12 : decode cX5_wouldRun 12 = .ok (.invokevirtual 65, 3) := by decide +kernel
theorem dX5_wouldRun_15 : decode cX5_wouldRun 15 = .ok (.aload_n 0, 1) := by decide +kernel
theorem dX5_wouldRun_16 : decode cX5_wouldRun 16 = .ok (.getfield 26, 3) := by decide +kernel
theorem dX5_wouldRun_19 : decode cX5_wouldRun 19 = .ok (.astore 5, 2) := by decide +kernel
theorem dX5_wouldRun_21 : decode cX5_wouldRun 21 = .ok (.aload 5, 2) := by decide +kernel
theorem dX5_wouldRun_23 : decode cX5_wouldRun 23 = .ok (.arraylength, 1) := by decide +kernel
theorem dX5_wouldRun_24 : decode cX5_wouldRun 24 = .ok (.istore 6, 2) := by decide +kernel
theorem dX5_wouldRun_26 : decode cX5_wouldRun 26 = .ok (.iconst 0, 1) := by decide +kernel
theorem dX5_wouldRun_27 : decode cX5_wouldRun 27 = .ok (.istore 7, 2) := by decide +kernel
theorem dX5_wouldRun_29 : decode cX5_wouldRun 29 = .ok (.iload 7, 2) := by decide +kernel
theorem dX5_wouldRun_31 : decode cX5_wouldRun 31 = .ok (.iload 6, 2) := by decide +kernel
theorem dX5_wouldRun_33 : decode cX5_wouldRun 33 = .ok (.if_icmp .ge 41, 3) := by decide +kernel
theorem dX5_wouldRun_36 : decode cX5_wouldRun 36 = .ok (.aload 5, 2) := by decide +kernel
theorem dX5_wouldRun_38 : decode cX5_wouldRun 38 = .ok (.iload 7, 2) := by decide +kernel
theorem dX5_wouldRun_40 : decode cX5_wouldRun 40 = .ok (.iaload, 1) := by decide +kernel
theorem dX5_wouldRun_41 : decode cX5_wouldRun 41 = .ok (.istore 8, 2) := by decide +kernel
theorem dX5_wouldRun_43 : decode cX5_wouldRun 43 = .ok (.iload_n 3, 1) := by decide +kernel
theorem dX5_wouldRun_44 : decode cX5_wouldRun 44 = .ok (.iload_n 2, 1) := by decide +kernel
theorem dX5_wouldRun_45 : decode cX5_wouldRun 45 = .ok (.ifCond .eq 11, 3) := by decide +kernel
theorem dX5_wouldRun_48 : decode cX5_wouldRun 48 = .ok (.iload 8, 2) := by decide +kernel
theorem dX5_wouldRun_50 : decode cX5_wouldRun 50 = .ok (.invokestatic 77, 3) := by decide +kernel
theorem dX5_wouldRun_53 : decode cX5_wouldRun 53 = .ok (.goto 13, 3) := by decide +kernel
theorem dX5_wouldRun_56 : decode cX5_wouldRun 56 = .ok (.iload 8, 2) := by decide +kernel
theorem dX5_wouldRun_58 : decode cX5_wouldRun 58 = .ok (.ifCond .ne 7, 3) := by decide +kernel
theorem dX5_wouldRun_61 : decode cX5_wouldRun 61 = .ok (.iconst 1, 1) := by decide +kernel
theorem dX5_wouldRun_62 : decode cX5_wouldRun 62 = .ok (.goto 4, 3) := by decide +kernel
theorem dX5_wouldRun_65 : decode cX5_wouldRun 65 = .ok (.iconst 0, 1) := by decide +kernel
theorem dX5_wouldRun_66 : decode cX5_wouldRun 66 = .ok (.iadd, 1) := by decide +kernel
theorem dX5_wouldRun_67 : decode cX5_wouldRun 67 = .ok (.istore_n 3, 1) := by decide +kernel
theorem dX5_wouldRun_68 : decode cX5_wouldRun 68 = .ok (.iinc 7 1, 3) := by decide +kernel
theorem dX5_wouldRun_71 : decode cX5_wouldRun 71 = .ok (.goto (-42), 3) := by decide +kernel
theorem dX5_wouldRun_74 : decode cX5_wouldRun 74 = .ok (.iinc 4 1, 3) := by decide +kernel
theorem dX5_wouldRun_77 : decode cX5_wouldRun 77 = .ok (.goto (-72), 3) := by decide +kernel
theorem dX5_wouldRun_80 : decode cX5_wouldRun 80 = .ok (.iload_n 3, 1) := by decide +kernel
theorem dX5_wouldRun_81 : decode cX5_wouldRun 81 = .ok (.ireturn, 1) := by decide +kernel
theorem dX5_kept_0 : decode cX5_kept 0 = .ok (.iconst 2, 1) := by decide +kernel
theorem dX5_kept_1 : decode cX5_kept 1 = .ok (.anewarray 103, 3) := by decide +kernel
theorem dX5_kept_4 : decode cX5_kept 4 = .ok (.dup, 1) := by decide +kernel
theorem dX5_kept_5 : decode cX5_kept 5 = .ok (.iconst 0, 1) := by decide +kernel
theorem dX5_kept_6 : decode cX5_kept 6 = .ok (.aload_n 0, 1) := by decide +kernel
theorem dX5_kept_7 : decode cX5_kept 7 = .ok (.getfield 13, 3) := by decide +kernel
theorem dX5_kept_10 : decode cX5_kept 10 = .ok (.invokevirtual 104, 3) := by decide +kernel
theorem dX5_kept_13 : decode cX5_kept 13 = .ok (.checkcast 103, 3) := by decide +kernel
theorem dX5_kept_16 : decode cX5_kept 16 = .ok (.aastore, 1) := by decide +kernel
theorem dX5_kept_17 : decode cX5_kept 17 = .ok (.dup, 1) := by decide +kernel
theorem dX5_kept_18 : decode cX5_kept 18 = .ok (.iconst 1, 1) := by decide +kernel
theorem dX5_kept_19 : decode cX5_kept 19 = .ok (.aload_n 0, 1) := by decide +kernel
theorem dX5_kept_20 : decode cX5_kept 20 = .ok (.getfield 19, 3) := by decide +kernel
theorem dX5_kept_23 : decode cX5_kept 23 = .ok (.invokevirtual 104, 3) := by decide +kernel
theorem dX5_kept_26 : decode cX5_kept 26 = .ok (.checkcast 103, 3) := by decide +kernel
theorem dX5_kept_29 : decode cX5_kept 29 = .ok (.aastore, 1) := by decide +kernel
theorem dX5_kept_30 : decode cX5_kept 30 = .ok (.areturn, 1) := by decide +kernel
theorem dX5_bringBack_0 : decode cX5_bringBack 0 = .ok (.aload_n 1, 1) := by decide +kernel
theorem dX5_bringBack_1 : decode cX5_bringBack 1 = .ok (.iconst 0, 1) := by decide +kernel
theorem dX5_bringBack_2 : decode cX5_bringBack 2 = .ok (.aaload, 1) := by decide +kernel
theorem dX5_bringBack_3 : decode cX5_bringBack 3 = .ok (.iconst 0, 1) := by decide +kernel
theorem dX5_bringBack_4 : decode cX5_bringBack 4 = .ok (.aload_n 0, 1) := by decide +kernel
theorem dX5_bringBack_5 : decode cX5_bringBack 5 = .ok (.getfield 13, 3) := by decide +kernel
theorem dX5_bringBack_8 : decode cX5_bringBack 8 = .ok (.iconst 0, 1) := by decide +kernel
theorem dX5_bringBack_9 : decode cX5_bringBack 9 = .ok (.aload_n 0, 1) := by decide +kernel
theorem dX5_bringBack_10 : decode cX5_bringBack 10 = .ok (.getfield 13, 3) := by decide +kernel
theorem dX5_bringBack_13 : decode cX5_bringBack 13 = .ok (.arraylength, 1) := by decide +kernel
theorem dX5_bringBack_14 : decode cX5_bringBack 14 = .ok (.invokestatic 68, 3) := by decide +kernel
theorem dX5_bringBack_17 : decode cX5_bringBack 17 = .ok (.aload_n 1, 1) := by decide +kernel
theorem dX5_bringBack_18 : decode cX5_bringBack 18 = .ok (.iconst 1, 1) := by decide +kernel
theorem dX5_bringBack_19 : decode cX5_bringBack 19 = .ok (.aaload, 1) := by decide +kernel
theorem dX5_bringBack_20 : decode cX5_bringBack 20 = .ok (.iconst 0, 1) := by decide +kernel
theorem dX5_bringBack_21 : decode cX5_bringBack 21 = .ok (.aload_n 0, 1) := by decide +kernel
theorem dX5_bringBack_22 : decode cX5_bringBack 22 = .ok (.getfield 19, 3) := by decide +kernel
theorem dX5_bringBack_25 : decode cX5_bringBack 25 = .ok (.iconst 0, 1) := by decide +kernel
theorem dX5_bringBack_26 : decode cX5_bringBack 26 = .ok (.bipush 7, 2) := by decide +kernel
theorem dX5_bringBack_28 : decode cX5_bringBack 28 = .ok (.invokestatic 68, 3) := by decide +kernel
theorem dX5_bringBack_31 : decode cX5_bringBack 31 = .ok (.return_, 1) := by decide +kernel
set_option maxRecDepth 20000 in
theorem ggX5_foresee_X5_isIn : GoodIn wsX5_foresee wsX5_isIn := goodIn_r _ [6] (by decide +kernel) (by decide +kernel)
set_option maxRecDepth 20000 in
theorem gX5_foresee_X5_isIn : GoodIn wsX5_foresee (va_wsS RX5 36 yX5_isIn wsX5_isIn) := goodIn_app (goodIn_of _ (by decide +kernel)) ggX5_foresee_X5_isIn
set_option maxRecDepth 20000 in
theorem ggX5_foresee_X5_fail : GoodIn wsX5_foresee wsX5_fail := goodIn_r _ [10, 1, 63, 64, 65, 66, 67, 68, 69, 70] (by decide +kernel) (by decide +kernel)
set_option maxRecDepth 20000 in
theorem gX5_foresee_X5_fail : GoodIn wsX5_foresee (wsV RX5 40 RX5 yX5_fail wsX5_fail) := goodIn_app (goodIn_of _ (by decide +kernel)) ggX5_foresee_X5_fail
set_option maxRecDepth 20000 in
theorem ggX5_foresee_X5_kept : GoodIn wsX5_foresee wsX5_kept := goodIn_r _ [14, 15, 2, 16, 17, 18, 19, 20, 21, 63, 64, 65, 66, 67, 68, 69, 70] (by decide +kernel) (by decide +kernel)
set_option maxRecDepth 20000 in
theorem gX5_foresee_X5_kept : GoodIn wsX5_foresee (wsV RX5 108 RX5 yX5_kept wsX5_kept) := goodIn_app (goodIn_of _ (by decide +kernel)) ggX5_foresee_X5_kept
set_option maxRecDepth 20000 in
theorem ggX5_foresee_X5_wouldRun : GoodIn wsX5_foresee wsX5_wouldRun := goodIn_r _ [25, 26, 27, 28, 29, 5, 30, 2, 31, 32, 33, 34, 35, 36, 37, 38, 39, 40, 41, 42, 21, 3, 4, 6, 43, 44, 45, 46, 47, 48, 49, 50, 63, 64, 65, 66, 67, 68, 69, 70] (by decide +kernel) (by decide +kernel)
set_option maxRecDepth 20000 in
theorem gX5_foresee_X5_wouldRun : GoodIn wsX5_foresee (wsV RX5 112 RX5 yX5_wouldRun wsX5_wouldRun) := goodIn_app (goodIn_of _ (by decide +kernel)) ggX5_foresee_X5_wouldRun
set_option maxRecDepth 20000 in
theorem ggX5_foresee_X5_broken : GoodIn wsX5_foresee wsX5_broken := goodIn_r _ [54, 43, 44, 45, 5, 46, 21, 47, 63, 64, 65, 66, 67, 68, 69, 70] (by decide +kernel) (by decide +kernel)
set_option maxRecDepth 20000 in
theorem gX5_foresee_X5_broken : GoodIn wsX5_foresee (wsV RX5 96 RX5 yX5_broken wsX5_broken) := goodIn_app (goodIn_of _ (by decide +kernel)) ggX5_foresee_X5_broken
set_option maxRecDepth 20000 in
theorem ggX5_foresee_X5_bringBack : GoodIn wsX5_foresee wsX5_bringBack := goodIn_r _ [58, 2, 59, 60, 61, 62, 21, 63, 64, 65, 66, 67, 68, 69, 70] (by decide +kernel) (by decide +kernel)
set_option maxRecDepth 20000 in
theorem gX5_foresee_X5_bringBack : GoodIn wsX5_foresee (wsV RX5 116 RX5 yX5_bringBack wsX5_bringBack) := goodIn_app (goodIn_of _ (by decide +kernel)) ggX5_foresee_X5_bringBack
theorem dX5_foresee_0 : decode cX5_foresee 0 = .ok (.aload_n 0, 1) := by decide +kernel
theorem dX5_foresee_1 : decode cX5_foresee 1 = .ok (.iconst 0, 1) := by decide +kernel
theorem dX5_foresee_2 : decode cX5_foresee 2 = .ok (.putfield 29, 3) := by decide +kernel
theorem dX5_foresee_5 : decode cX5_foresee 5 = .ok (.iload_n 1, 1) := by decide +kernel
theorem dX5_foresee_6 : decode cX5_foresee 6 = .ok (.iconst 1, 1) := by decide +kernel
theorem dX5_foresee_7 : decode cX5_foresee 7 = .ok (.bipush 20, 2) := by decide +kernel
theorem dX5_foresee_9 : decode cX5_foresee 9 = .ok (.invokestatic 36, 3) := by decide +kernel
theorem dX5_foresee_12 : decode cX5_foresee 12 = .ok (.ifCond .ne 9, 3) := by decide +kernel
theorem dX5_foresee_15 : decode cX5_foresee 15 = .ok (.aload_n 0, 1) := by decide +kernel
theorem dX5_foresee_16 : decode cX5_foresee 16 = .ok (.iconst 1, 1) := by decide +kernel
theorem dX5_foresee_17 : decode cX5_foresee 17 = .ok (.invokevirtual 40, 3) := by decide +kernel
theorem dX5_foresee_20 : decode cX5_foresee 20 = .ok (.ireturn, 1) := by decide +kernel
theorem dX5_foresee_21 : decode cX5_foresee 21 = .ok (.iload_n 2, 1) := by decide +kernel
theorem dX5_foresee_22 : decode cX5_foresee 22 = .ok (.iconst 0, 1) := by decide +kernel
theorem dX5_foresee_23 : decode cX5_foresee 23 = .ok (.iconst 3, 1) := by decide +kernel
theorem dX5_foresee_24 : decode cX5_foresee 24 = .ok (.invokestatic 36, 3) := by decide +kernel
theorem dX5_foresee_27 : decode cX5_foresee 27 = .ok (.ifCond .ne 9, 3) := by decide +kernel
theorem dX5_foresee_30 : decode cX5_foresee 30 = .ok (.aload_n 0, 1) := by decide +kernel
theorem dX5_foresee_31 : decode cX5_foresee 31 = .ok (.iconst 2, 1) := by decide +kernel
theorem dX5_foresee_32 : decode cX5_foresee 32 = .ok (.invokevirtual 40, 3) := by decide +kernel
theorem dX5_foresee_35 : decode cX5_foresee 35 = .ok (.ireturn, 1) := by decide +kernel
theorem dX5_foresee_36 : decode cX5_foresee 36 = .ok (.aload_n 0, 1) := by decide +kernel
theorem dX5_foresee_37 : decode cX5_foresee 37 = .ok (.invokevirtual 108, 3) := by decide +kernel
theorem dX5_foresee_40 : decode cX5_foresee 40 = .ok (.astore_n 3, 1) := by decide +kernel
theorem dX5_foresee_41 : decode cX5_foresee 41 = .ok (.aload_n 0, 1) := by decide +kernel
theorem dX5_foresee_42 : decode cX5_foresee 42 = .ok (.iload_n 1, 1) := by decide +kernel
theorem dX5_foresee_43 : decode cX5_foresee 43 = .ok (.iload_n 2, 1) := by decide +kernel
theorem dX5_foresee_44 : decode cX5_foresee 44 = .ok (.iconst 1, 1) := by decide +kernel
theorem dX5_foresee_45 : decode cX5_foresee 45 = .ok (.if_icmp .ne 7, 3) := by decide +kernel
theorem dX5_foresee_48 : decode cX5_foresee 48 = .ok (.iconst 1, 1) := by decide +kernel
theorem dX5_foresee_49 : decode cX5_foresee 49 = .ok (.goto 4, 3) := by decide +kernel
theorem dX5_foresee_52 : decode cX5_foresee 52 = .ok (.iconst 0, 1) := by decide +kernel
theorem dX5_foresee_53 : decode cX5_foresee 53 = .ok (.invokevirtual 112, 3) := by decide +kernel
theorem dX5_foresee_56 : decode cX5_foresee 56 = .ok (.istore 4, 2) := by decide +kernel
theorem dX5_foresee_58 : decode cX5_foresee 58 = .ok (.iload_n 2, 1) := by decide +kernel
theorem dX5_foresee_59 : decode cX5_foresee 59 = .ok (.iconst 2, 1) := by decide +kernel
theorem dX5_foresee_60 : decode cX5_foresee 60 = .ok (.if_icmp .ge 8, 3) := by decide +kernel
theorem dX5_foresee_63 : decode cX5_foresee 63 = .ok (.iload 4, 2) := by decide +kernel
theorem dX5_foresee_65 : decode cX5_foresee 65 = .ok (.goto 21, 3) := by decide +kernel
theorem dX5_foresee_68 : decode cX5_foresee 68 = .ok (.iload_n 2, 1) := by decide +kernel
theorem dX5_foresee_69 : decode cX5_foresee 69 = .ok (.iconst 2, 1) := by decide +kernel
theorem dX5_foresee_70 : decode cX5_foresee 70 = .ok (.if_icmp .ne 10, 3) := by decide +kernel
theorem dX5_foresee_73 : decode cX5_foresee 73 = .ok (.aload_n 0, 1) := by decide +kernel
theorem dX5_foresee_74 : decode cX5_foresee 74 = .ok (.invokevirtual 96, 3) := by decide +kernel
theorem dX5_foresee_77 : decode cX5_foresee 77 = .ok (.goto 9, 3) := by decide +kernel
theorem dX5_foresee_80 : decode cX5_foresee 80 = .ok (.aload_n 0, 1) := by decide +kernel
theorem dX5_foresee_81 : decode cX5_foresee 81 = .ok (.getfield 13, 3) := by decide +kernel
theorem dX5_foresee_84 : decode cX5_foresee 84 = .ok (.iconst 2, 1) := by decide +kernel
theorem dX5_foresee_85 : decode cX5_foresee 85 = .ok (.iaload, 1) := by decide +kernel
theorem dX5_foresee_86 : decode cX5_foresee 86 = .ok (.istore 5, 2) := by decide +kernel
theorem dX5_foresee_88 : decode cX5_foresee 88 = .ok (.aload_n 0, 1) := by decide +kernel
theorem dX5_foresee_89 : decode cX5_foresee 89 = .ok (.aload_n 3, 1) := by decide +kernel
theorem dX5_foresee_90 : decode cX5_foresee 90 = .ok (.invokevirtual 116, 3) := by decide +kernel
theorem dX5_foresee_93 : decode cX5_foresee 93 = .ok (.iload 5, 2) := by decide +kernel
theorem dX5_foresee_95 : decode cX5_foresee 95 = .ok (.ireturn, 1) := by decide +kernel
set_option maxRecDepth 20000 in
theorem ggX5_advise_X5_isIn : GoodIn wsX5_advise wsX5_isIn := goodIn_r _ [6] (by decide +kernel) (by decide +kernel)
set_option maxRecDepth 20000 in
theorem gX5_advise_X5_isIn : GoodIn wsX5_advise (va_wsS RX5 36 yX5_isIn wsX5_isIn) := goodIn_app (goodIn_of _ (by decide +kernel)) ggX5_advise_X5_isIn
set_option maxRecDepth 20000 in
theorem ggX5_advise_X5_fail : GoodIn wsX5_advise wsX5_fail := goodIn_r _ [10, 1, 59, 60, 61, 62, 63, 64, 65, 66] (by decide +kernel) (by decide +kernel)
set_option maxRecDepth 20000 in
theorem gX5_advise_X5_fail : GoodIn wsX5_advise (wsV RX5 40 RX5 yX5_fail wsX5_fail) := goodIn_app (goodIn_of _ (by decide +kernel)) ggX5_advise_X5_fail
set_option maxRecDepth 20000 in
theorem ggX5_advise_X5_kept : GoodIn wsX5_advise wsX5_kept := goodIn_r _ [14, 15, 2, 16, 17, 18, 19, 20, 21, 59, 60, 61, 62, 63, 64, 65, 66] (by decide +kernel) (by decide +kernel)
set_option maxRecDepth 20000 in
theorem gX5_advise_X5_kept : GoodIn wsX5_advise (wsV RX5 108 RX5 yX5_kept wsX5_kept) := goodIn_app (goodIn_of _ (by decide +kernel)) ggX5_advise_X5_kept
set_option maxRecDepth 20000 in
theorem ggX5_advise_X5_wouldRun : GoodIn wsX5_advise wsX5_wouldRun := goodIn_r _ [25, 26, 27, 28, 29, 5, 30, 2, 31, 32, 33, 34, 35, 36, 37, 38, 39, 40, 41, 42, 21, 3, 4, 6, 43, 44, 45, 46, 47, 48, 49, 50, 59, 60, 61, 62, 63, 64, 65, 66] (by decide +kernel) (by decide +kernel)
set_option maxRecDepth 20000 in
theorem gX5_advise_X5_wouldRun : GoodIn wsX5_advise (wsV RX5 112 RX5 yX5_wouldRun wsX5_wouldRun) := goodIn_app (goodIn_of _ (by decide +kernel)) ggX5_advise_X5_wouldRun
set_option maxRecDepth 20000 in
theorem ggX5_advise_X5_bringBack : GoodIn wsX5_advise wsX5_bringBack := goodIn_r _ [54, 2, 55, 56, 57, 58, 21, 59, 60, 61, 62, 63, 64, 65, 66] (by decide +kernel) (by decide +kernel)
set_option maxRecDepth 20000 in
theorem gX5_advise_X5_bringBack : GoodIn wsX5_advise (wsV RX5 116 RX5 yX5_bringBack wsX5_bringBack) := goodIn_app (goodIn_of _ (by decide +kernel)) ggX5_advise_X5_bringBack
theorem dX5_advise_0 : decode cX5_advise 0 = .ok (.aload_n 0, 1) := by decide +kernel
theorem dX5_advise_1 : decode cX5_advise 1 = .ok (.iconst 0, 1) := by decide +kernel
theorem dX5_advise_2 : decode cX5_advise 2 = .ok (.putfield 29, 3) := by decide +kernel
theorem dX5_advise_5 : decode cX5_advise 5 = .ok (.iload_n 1, 1) := by decide +kernel
theorem dX5_advise_6 : decode cX5_advise 6 = .ok (.iconst 1, 1) := by decide +kernel
theorem dX5_advise_7 : decode cX5_advise 7 = .ok (.bipush 20, 2) := by decide +kernel
theorem dX5_advise_9 : decode cX5_advise 9 = .ok (.invokestatic 36, 3) := by decide +kernel
theorem dX5_advise_12 : decode cX5_advise 12 = .ok (.ifCond .ne 9, 3) := by decide +kernel
theorem dX5_advise_15 : decode cX5_advise 15 = .ok (.aload_n 0, 1) := by decide +kernel
theorem dX5_advise_16 : decode cX5_advise 16 = .ok (.iconst 1, 1) := by decide +kernel
theorem dX5_advise_17 : decode cX5_advise 17 = .ok (.invokevirtual 40, 3) := by decide +kernel
theorem dX5_advise_20 : decode cX5_advise 20 = .ok (.ireturn, 1) := by decide +kernel
theorem dX5_advise_21 : decode cX5_advise 21 = .ok (.aload_n 0, 1) := by decide +kernel
theorem dX5_advise_22 : decode cX5_advise 22 = .ok (.invokevirtual 108, 3) := by decide +kernel
theorem dX5_advise_25 : decode cX5_advise 25 = .ok (.astore_n 2, 1) := by decide +kernel
theorem dX5_advise_26 : decode cX5_advise 26 = .ok (.iconst 0, 1) := by decide +kernel
theorem dX5_advise_27 : decode cX5_advise 27 = .ok (.istore_n 3, 1) := by decide +kernel
theorem dX5_advise_28 : decode cX5_advise 28 = .ok (.iconst (-1), 1) := by decide +kernel
theorem dX5_advise_29 : decode cX5_advise 29 = .ok (.istore 4, 2) := by decide +kernel
theorem dX5_advise_31 : decode cX5_advise 31 = .ok (.bipush 10, 2) := by decide +kernel
theorem dX5_advise_33 : decode cX5_advise 33 = .ok (.istore 5, 2) := by decide +kernel
theorem dX5_advise_35 : decode cX5_advise 35 = .ok (.iload 5, 2) := by decide +kernel
theorem dX5_advise_37 : decode cX5_advise 37 = .ok (.bipush 30, 2) := by decide +kernel
theorem dX5_advise_39 : decode cX5_advise 39 = .ok (.if_icmp .gt 47, 3) := by decide +kernel
theorem dX5_advise_42 : decode cX5_advise 42 = .ok (.aload_n 0, 1) := by decide +kernel
theorem dX5_advise_43 : decode cX5_advise 43 = .ok (.getfield 13, 3) := by decide +kernel
theorem dX5_advise_46 : decode cX5_advise 46 = .ok (.iconst 0, 1) := by decide +kernel
theorem dX5_advise_47 : decode cX5_advise 47 = .ok (.iload 5, 2) := by decide +kernel
theorem dX5_advise_49 : decode cX5_advise 49 = .ok (.iastore, 1) := by decide +kernel
theorem dX5_advise_50 : decode cX5_advise 50 = .ok (.aload_n 0, 1) := by decide +kernel
theorem dX5_advise_51 : decode cX5_advise 51 = .ok (.iload_n 1, 1) := by decide +kernel
theorem dX5_advise_52 : decode cX5_advise 52 = .ok (.iconst 0, 1) := by decide +kernel
theorem dX5_advise_53 : decode cX5_advise 53 = .ok (.invokevirtual 112, 3) := by decide +kernel
theorem dX5_advise_56 : decode cX5_advise 56 = .ok (.istore 6, 2) := by decide +kernel
theorem dX5_advise_58 : decode cX5_advise 58 = .ok (.aload_n 0, 1) := by decide +kernel
theorem dX5_advise_59 : decode cX5_advise 59 = .ok (.aload_n 2, 1) := by decide +kernel
theorem dX5_advise_60 : decode cX5_advise 60 = .ok (.invokevirtual 116, 3) := by decide +kernel
theorem dX5_advise_63 : decode cX5_advise 63 = .ok (.iload 6, 2) := by decide +kernel
theorem dX5_advise_65 : decode cX5_advise 65 = .ok (.iload 4, 2) := by decide +kernel
theorem dX5_advise_67 : decode cX5_advise 67 = .ok (.if_icmp .gt 6, 3) := by decide +kernel
theorem dX5_advise_70 : decode cX5_advise 70 = .ok (.goto 10, 3) := by decide +kernel
theorem dX5_advise_73 : decode cX5_advise 73 = .ok (.iload 5, 2) := by decide +kernel
theorem dX5_advise_75 : decode cX5_advise 75 = .ok (.istore_n 3, 1) := by decide +kernel
theorem dX5_advise_76 : decode cX5_advise 76 = .ok (.iload 6, 2) := by decide +kernel
theorem dX5_advise_78 : decode cX5_advise 78 = .ok (.istore 4, 2) := by decide +kernel
theorem dX5_advise_80 : decode cX5_advise 80 = .ok (.iinc 5 1, 3) := by decide +kernel
theorem dX5_advise_83 : decode cX5_advise 83 = .ok (.goto (-48), 3) := by decide +kernel
theorem dX5_advise_86 : decode cX5_advise 86 = .ok (.iload_n 3, 1) := by decide +kernel
theorem dX5_advise_87 : decode cX5_advise 87 = .ok (.ireturn, 1) := by decide +kernel
set_option maxRecDepth 20000 in
theorem ggX5_like_X5_isIn : GoodIn wsX5_like wsX5_isIn := goodIn_r _ [7] (by decide +kernel) (by decide +kernel)
set_option maxRecDepth 20000 in
theorem gX5_like_X5_isIn : GoodIn wsX5_like (va_wsS RX5 36 yX5_isIn wsX5_isIn) := goodIn_app (goodIn_of _ (by decide +kernel)) ggX5_like_X5_isIn
set_option maxRecDepth 20000 in
theorem ggX5_like_X5_fail : GoodIn wsX5_like wsX5_fail := goodIn_r _ [11, 1, 12, 13, 14, 15, 16, 17, 18, 19] (by decide +kernel) (by decide +kernel)
set_option maxRecDepth 20000 in
theorem gX5_like_X5_fail : GoodIn wsX5_like (wsV RX5 40 RX5 yX5_fail wsX5_fail) := goodIn_app (goodIn_of _ (by decide +kernel)) ggX5_like_X5_fail
theorem dX5_like_0 : decode cX5_like 0 = .ok (.aload_n 0, 1) := by decide +kernel
theorem dX5_like_1 : decode cX5_like 1 = .ok (.iconst 0, 1) := by decide +kernel
theorem dX5_like_2 : decode cX5_like 2 = .ok (.putfield 29, 3) := by decide +kernel
theorem dX5_like_5 : decode cX5_like 5 = .ok (.iload_n 1, 1) := by decide +kernel
theorem dX5_like_6 : decode cX5_like 6 = .ok (.iconst 0, 1) := by decide +kernel
theorem dX5_like_7 : decode cX5_like 7 = .ok (.bipush 31, 2) := by decide +kernel
theorem dX5_like_9 : decode cX5_like 9 = .ok (.invokestatic 36, 3) := by decide +kernel
theorem dX5_like_12 : decode cX5_like 12 = .ok (.ifCond .ne 9, 3) := by decide +kernel
theorem dX5_like_15 : decode cX5_like 15 = .ok (.aload_n 0, 1) := by decide +kernel
theorem dX5_like_16 : decode cX5_like 16 = .ok (.iconst 1, 1) := by decide +kernel
theorem dX5_like_17 : decode cX5_like 17 = .ok (.invokevirtual 40, 3) := by decide +kernel
theorem dX5_like_20 : decode cX5_like 20 = .ok (.ireturn, 1) := by decide +kernel
theorem dX5_like_21 : decode cX5_like 21 = .ok (.iconst 0, 1) := by decide +kernel
theorem dX5_like_22 : decode cX5_like 22 = .ok (.istore_n 2, 1) := by decide +kernel
theorem dX5_like_23 : decode cX5_like 23 = .ok (.iconst 0, 1) := by decide +kernel
theorem dX5_like_24 : decode cX5_like 24 = .ok (.istore_n 3, 1) := by decide +kernel
theorem dX5_like_25 : decode cX5_like 25 = .ok (.iload_n 3, 1) := by decide +kernel
theorem dX5_like_26 : decode cX5_like 26 = .ok (.bipush 30, 2) := by decide +kernel
theorem dX5_like_28 : decode cX5_like 28 = .ok (.aload_n 0, 1) := by decide +kernel
theorem dX5_like_29 : decode cX5_like 29 = .ok (.getfield 33, 3) := by decide +kernel
theorem dX5_like_32 : decode cX5_like 32 = .ok (.imul, 1) := by decide +kernel
theorem dX5_like_33 : decode cX5_like 33 = .ok (.if_icmp .ge 27, 3) := by decide +kernel
theorem dX5_like_36 : decode cX5_like 36 = .ok (.iload_n 2, 1) := by decide +kernel
theorem dX5_like_37 : decode cX5_like 37 = .ok (.aload_n 0, 1) := by decide +kernel
theorem dX5_like_38 : decode cX5_like 38 = .ok (.getfield 9, 3) := by decide +kernel
theorem dX5_like_41 : decode cX5_like 41 = .ok (.iload_n 3, 1) := by decide +kernel
theorem dX5_like_42 : decode cX5_like 42 = .ok (.iaload, 1) := by decide +kernel
theorem dX5_like_43 : decode cX5_like 43 = .ok (.iload_n 1, 1) := by decide +kernel
theorem dX5_like_44 : decode cX5_like 44 = .ok (.if_icmp .ne 7, 3) := by decide +kernel
theorem dX5_like_47 : decode cX5_like 47 = .ok (.iconst 1, 1) := by decide +kernel
theorem dX5_like_48 : decode cX5_like 48 = .ok (.goto 4, 3) := by decide +kernel
theorem dX5_like_51 : decode cX5_like 51 = .ok (.iconst 0, 1) := by decide +kernel
theorem dX5_like_52 : decode cX5_like 52 = .ok (.iadd, 1) := by decide +kernel
theorem dX5_like_53 : decode cX5_like 53 = .ok (.istore_n 2, 1) := by decide +kernel
theorem dX5_like_54 : decode cX5_like 54 = .ok (.iinc 3 1, 3) := by decide +kernel
theorem dX5_like_57 : decode cX5_like 57 = .ok (.goto (-32), 3) := by decide +kernel
theorem dX5_like_60 : decode cX5_like 60 = .ok (.iload_n 2, 1) := by decide +kernel
theorem dX5_like_61 : decode cX5_like 61 = .ok (.ireturn, 1) := by decide +kernel
set_option maxRecDepth 20000 in
theorem ggX5_share_X5_sheetTold : GoodIn wsX5_share wsX5_sheetTold := goodIn_r _ [7, 8, 9, 10, 11, 6, 12, 13, 14, 15, 16, 17, 18, 19, 20, 21, 22, 23, 24, 25, 26, 27, 28, 29, 30, 31, 32, 33, 34, 35] (by decide +kernel) (by decide +kernel)
set_option maxRecDepth 20000 in
theorem gX5_share_X5_sheetTold : GoodIn wsX5_share (wsV RX5 90 RX5 yX5_sheetTold wsX5_sheetTold) := goodIn_app (goodIn_of _ (by decide +kernel)) ggX5_share_X5_sheetTold
theorem dX5_share_0 : decode cX5_share 0 = .ok (.aload_n 0, 1) := by decide +kernel
theorem dX5_share_1 : decode cX5_share 1 = .ok (.iconst 0, 1) := by decide +kernel
theorem dX5_share_2 : decode cX5_share 2 = .ok (.putfield 29, 3) := by decide +kernel
theorem dX5_share_5 : decode cX5_share 5 = .ok (.iconst 0, 1) := by decide +kernel
theorem dX5_share_6 : decode cX5_share 6 = .ok (.istore_n 1, 1) := by decide +kernel
theorem dX5_share_7 : decode cX5_share 7 = .ok (.iconst 0, 1) := by decide +kernel
theorem dX5_share_8 : decode cX5_share 8 = .ok (.istore_n 2, 1) := by decide +kernel
theorem dX5_share_9 : decode cX5_share 9 = .ok (.iload_n 2, 1) := by decide +kernel
theorem dX5_share_10 : decode cX5_share 10 = .ok (.aload_n 0, 1) := by decide +kernel
theorem dX5_share_11 : decode cX5_share 11 = .ok (.getfield 33, 3) := by decide +kernel
theorem dX5_share_14 : decode cX5_share 14 = .ok (.if_icmp .ge 18, 3) := by decide +kernel
theorem dX5_share_17 : decode cX5_share 17 = .ok (.iload_n 1, 1) := by decide +kernel
theorem dX5_share_18 : decode cX5_share 18 = .ok (.aload_n 0, 1) := by decide +kernel
theorem dX5_share_19 : decode cX5_share 19 = .ok (.iload_n 2, 1) := by decide +kernel
theorem dX5_share_20 : decode cX5_share 20 = .ok (.iconst 1, 1) := by decide +kernel
theorem dX5_share_21 : decode cX5_share 21 = .ok (.invokevirtual 90, 3) := by decide +kernel
theorem dX5_share_24 : decode cX5_share 24 = .ok (.iadd, 1) := by decide +kernel
theorem dX5_share_25 : decode cX5_share 25 = .ok (.istore_n 1, 1) := by decide +kernel
theorem dX5_share_26 : decode cX5_share 26 = .ok (.iinc 2 1, 3) := by decide +kernel
theorem dX5_share_29 : decode cX5_share 29 = .ok (.goto (-20), 3) := by decide +kernel
theorem dX5_share_32 : decode cX5_share 32 = .ok (.aload_n 0, 1) := by decide +kernel
theorem dX5_share_33 : decode cX5_share 33 = .ok (.getfield 33, 3) := by decide +kernel
theorem dX5_share_36 : decode cX5_share 36 = .ok (.ifCond .ne 7, 3) := by decide +kernel
theorem dX5_share_39 : decode cX5_share 39 = .ok (.dconst 0, 1) := by decide +kernel
theorem dX5_share_40 : decode cX5_share 40 = .ok (.goto 14, 3) := by decide +kernel
theorem dX5_share_43 : decode cX5_share 43 = .ok (.iload_n 1, 1) := by decide +kernel
theorem dX5_share_44 : decode cX5_share 44 = .ok (.i2d, 1) := by decide +kernel
theorem dX5_share_45 : decode cX5_share 45 = .ok (.bipush 30, 2) := by decide +kernel
theorem dX5_share_47 : decode cX5_share 47 = .ok (.aload_n 0, 1) := by decide +kernel
theorem dX5_share_48 : decode cX5_share 48 = .ok (.getfield 33, 3) := by decide +kernel
theorem dX5_share_51 : decode cX5_share 51 = .ok (.imul, 1) := by decide +kernel
theorem dX5_share_52 : decode cX5_share 52 = .ok (.i2d, 1) := by decide +kernel
theorem dX5_share_53 : decode cX5_share 53 = .ok (.ddiv, 1) := by decide +kernel
theorem dX5_share_54 : decode cX5_share 54 = .ok (.dreturn, 1) := by decide +kernel
set_option maxRecDepth 20000 in
theorem ggX5_digest_X5_counted : GoodIn wsX5_digest wsX5_counted := goodIn_r _ [10, 4, 11, 12, 13, 14, 15, 9, 16, 17, 18, 19, 20, 21, 22, 23, 24, 25, 26, 5, 27, 28, 29, 30, 31, 32, 33, 34, 35, 36, 37, 38, 39, 40, 41, 42, 43, 44, 45, 50, 51, 52, 53, 54, 55, 56, 57] (by decide +kernel) (by decide +kernel)
set_option maxRecDepth 20000 in
theorem gX5_digest_X5_counted : GoodIn wsX5_digest (wsV RX5 100 RX5 yX5_counted wsX5_counted) := goodIn_app (goodIn_of _ (by decide +kernel)) ggX5_digest_X5_counted
set_option maxRecDepth 20000 in
theorem ggX5_digest_X5_pinTold : GoodIn wsX5_digest wsX5_pinTold := goodIn_r _ [49, 22, 21, 17, 18, 19, 9, 20, 50, 51, 52, 53, 54, 55, 56, 57] (by decide +kernel) (by decide +kernel)
set_option maxRecDepth 20000 in
theorem gX5_digest_X5_pinTold : GoodIn wsX5_digest (wsV RX5 93 RX5 yX5_pinTold wsX5_pinTold) := goodIn_app (goodIn_of _ (by decide +kernel)) ggX5_digest_X5_pinTold
set_option maxRecDepth 20000 in
theorem ggX5_digest_X5_sheetTold : GoodIn wsX5_digest wsX5_sheetTold := goodIn_r _ [26, 5, 27, 28, 29, 9, 30, 31, 32, 33, 34, 35, 36, 37, 38, 39, 40, 41, 42, 43, 44, 45, 50, 51, 52, 53, 54, 55, 56, 57] (by decide +kernel) (by decide +kernel)
set_option maxRecDepth 20000 in
theorem gX5_digest_X5_sheetTold : GoodIn wsX5_digest (wsV RX5 90 RX5 yX5_sheetTold wsX5_sheetTold) := goodIn_app (goodIn_of _ (by decide +kernel)) ggX5_digest_X5_sheetTold
set_option maxRecDepth 20000 in
theorem ggX5_digest_X5_worth : GoodIn wsX5_digest wsX5_worth := goodIn_r _ [45] (by decide +kernel) (by decide +kernel)
set_option maxRecDepth 20000 in
theorem gX5_digest_X5_worth : GoodIn wsX5_digest (va_wsS RX5 77 yX5_worth wsX5_worth) := goodIn_app (goodIn_of _ (by decide +kernel)) ggX5_digest_X5_worth
theorem dX5_digest_0 : decode cX5_digest 0 = .ok (.aload_n 0, 1) := by decide +kernel
theorem dX5_digest_1 : decode cX5_digest 1 = .ok (.iconst 0, 1) := by decide +kernel
theorem dX5_digest_2 : decode cX5_digest 2 = .ok (.putfield 29, 3) := by decide +kernel
theorem dX5_digest_5 : decode cX5_digest 5 = .ok (.ldc2_w 120, 3) := by decide +kernel
theorem dX5_digest_8 : decode cX5_digest 8 = .ok (.lstore_n 1, 1) := by decide +kernel
theorem dX5_digest_9 : decode cX5_digest 9 = .ok (.iconst 0, 1) := by decide +kernel
theorem dX5_digest_10 : decode cX5_digest 10 = .ok (.istore_n 3, 1) := by decide +kernel
theorem dX5_digest_11 : decode cX5_digest 11 = .ok (.iload_n 3, 1) := by decide +kernel
theorem dX5_digest_12 : decode cX5_digest 12 = .ok (.bipush 10, 2) := by decide +kernel
theorem dX5_digest_14 : decode cX5_digest 14 = .ok (.if_icmp .ge 22, 3) := by decide +kernel
theorem dX5_digest_17 : decode cX5_digest 17 = .ok (.lload_n 1, 1) := by decide +kernel
theorem dX5_digest_18 : decode cX5_digest 18 = .ok (.ldc2_w 122, 3) := by decide +kernel
theorem dX5_digest_21 : decode cX5_digest 21 = .ok (.lmul, 1) := by decide +kernel
theorem dX5_digest_22 : decode cX5_digest 22 = .ok (.aload_n 0, 1) := by decide +kernel
theorem dX5_digest_23 : decode cX5_digest 23 = .ok (.iload_n 3, 1) := by decide +kernel
theorem dX5_digest_24 : decode cX5_digest 24 = .ok (.invokevirtual 100, 3) := by decide +kernel
theorem dX5_digest_27 : decode cX5_digest 27 = .ok (.i2l, 1) := by decide +kernel
theorem dX5_digest_28 : decode cX5_digest 28 = .ok (.ladd, 1) := by decide +kernel
theorem dX5_digest_29 : decode cX5_digest 29 = .ok (.lstore_n 1, 1) := by decide +kernel
theorem dX5_digest_30 : decode cX5_digest 30 = .ok (.iinc 3 1, 3) := by decide +kernel
theorem dX5_digest_33 : decode cX5_digest 33 = .ok (.goto (-22), 3) := by decide +kernel
theorem dX5_digest_36 : decode cX5_digest 36 = .ok (.iconst 0, 1) := by decide +kernel
theorem dX5_digest_37 : decode cX5_digest 37 = .ok (.istore_n 3, 1) := by decide +kernel
theorem dX5_digest_38 : decode cX5_digest 38 = .ok (.iload_n 3, 1) := by decide +kernel
theorem dX5_digest_39 : decode cX5_digest 39 = .ok (.bipush 7, 2) := by decide +kernel
theorem dX5_digest_41 : decode cX5_digest 41 = .ok (.if_icmp .ge 39, 3) := by decide +kernel
theorem dX5_digest_44 : decode cX5_digest 44 = .ok (.iconst 0, 1) := by decide +kernel
theorem dX5_digest_45 : decode cX5_digest 45 = .ok (.istore 4, 2) := by decide +kernel
theorem dX5_digest_47 : decode cX5_digest 47 = .ok (.iload 4, 2) := by decide +kernel
theorem dX5_digest_49 : decode cX5_digest 49 = .ok (.iconst 4, 1) := by decide +kernel
theorem dX5_digest_50 : decode cX5_digest 50 = .ok (.if_icmp .ge 24, 3) := by decide +kernel
theorem dX5_digest_53 : decode cX5_digest 53 = .ok (.lload_n 1, 1) := by decide +kernel
theorem dX5_digest_54 : decode cX5_digest 54 = .ok (.ldc2_w 122, 3) := by decide +kernel
theorem dX5_digest_57 : decode cX5_digest 57 = .ok (.lmul, 1) := by decide +kernel
theorem dX5_digest_58 : decode cX5_digest 58 = .ok (.aload_n 0, 1) := by decide +kernel
theorem dX5_digest_59 : decode cX5_digest 59 = .ok (.iload_n 3, 1) := by decide +kernel
theorem dX5_digest_60 : decode cX5_digest 60 = .ok (.iload 4, 2) := by decide +kernel
theorem dX5_digest_62 : decode cX5_digest 62 = .ok (.invokevirtual 93, 3) := by decide +kernel
theorem dX5_digest_65 : decode cX5_digest 65 = .ok (.i2l, 1) := by decide +kernel
theorem dX5_digest_66 : decode cX5_digest 66 = .ok (.ladd, 1) := by decide +kernel
theorem dX5_digest_67 : decode cX5_digest 67 = .ok (.lstore_n 1, 1) := by decide +kernel
theorem dX5_digest_68 : decode cX5_digest 68 = .ok (.iinc 4 1, 3) := by decide +kernel
theorem dX5_digest_71 : decode cX5_digest 71 = .ok (.goto (-24), 3) := by decide +kernel
theorem dX5_digest_74 : decode cX5_digest 74 = .ok (.iinc 3 1, 3) := by decide +kernel
theorem dX5_digest_77 : decode cX5_digest 77 = .ok (.goto (-39), 3) := by decide +kernel
theorem dX5_digest_80 : decode cX5_digest 80 = .ok (.iconst 0, 1) := by decide +kernel
theorem dX5_digest_81 : decode cX5_digest 81 = .ok (.istore_n 3, 1) := by decide +kernel
theorem dX5_digest_82 : decode cX5_digest 82 = .ok (.iload_n 3, 1) := by decide +kernel
theorem dX5_digest_83 : decode cX5_digest 83 = .ok (.aload_n 0, 1) := by decide +kernel
theorem dX5_digest_84 : decode cX5_digest 84 = .ok (.getfield 33, 3) := by decide +kernel
theorem dX5_digest_87 : decode cX5_digest 87 = .ok (.if_icmp .ge 98, 3) := by decide +kernel
theorem dX5_digest_90 : decode cX5_digest 90 = .ok (.iconst 0, 1) := by decide +kernel
theorem dX5_digest_91 : decode cX5_digest 91 = .ok (.istore 4, 2) := by decide +kernel
theorem dX5_digest_93 : decode cX5_digest 93 = .ok (.iload 4, 2) := by decide +kernel
theorem dX5_digest_95 : decode cX5_digest 95 = .ok (.bipush 6, 2) := by decide +kernel
theorem dX5_digest_97 : decode cX5_digest 97 = .ok (.if_icmp .ge 24, 3) := by decide +kernel
theorem dX5_digest_100 : decode cX5_digest 100 = .ok (.lload_n 1, 1) := by decide +kernel
theorem dX5_digest_101 : decode cX5_digest 101 = .ok (.ldc2_w 122, 3) := by decide +kernel
theorem dX5_digest_104 : decode cX5_digest 104 = .ok (.lmul, 1) := by decide +kernel
theorem dX5_digest_105 : decode cX5_digest 105 = .ok (.aload_n 0, 1) := by decide +kernel
theorem dX5_digest_106 : decode cX5_digest 106 = .ok (.iload_n 3, 1) := by decide +kernel
theorem dX5_digest_107 : decode cX5_digest 107 = .ok (.iload 4, 2) := by decide +kernel
theorem dX5_digest_109 : decode cX5_digest 109 = .ok (.invokevirtual 90, 3) := by decide +kernel
theorem dX5_digest_112 : decode cX5_digest 112 = .ok (.i2l, 1) := by decide +kernel
theorem dX5_digest_113 : decode cX5_digest 113 = .ok (.ladd, 1) := by decide +kernel
theorem dX5_digest_114 : decode cX5_digest 114 = .ok (.lstore_n 1, 1) := by decide +kernel
theorem dX5_digest_115 : decode cX5_digest 115 = .ok (.iinc 4 1, 3) := by decide +kernel
theorem dX5_digest_118 : decode cX5_digest 118 = .ok (.goto (-25), 3) := by decide +kernel
theorem dX5_digest_121 : decode cX5_digest 121 = .ok (.bipush 30, 2) := by decide +kernel
theorem dX5_digest_123 : decode cX5_digest 123 = .ok (.iload_n 3, 1) := by decide +kernel
theorem dX5_digest_124 : decode cX5_digest 124 = .ok (.imul, 1) := by decide +kernel
theorem dX5_digest_125 : decode cX5_digest 125 = .ok (.istore 4, 2) := by decide +kernel
theorem dX5_digest_127 : decode cX5_digest 127 = .ok (.iload 4, 2) := by decide +kernel
theorem dX5_digest_129 : decode cX5_digest 129 = .ok (.bipush 30, 2) := by decide +kernel
theorem dX5_digest_131 : decode cX5_digest 131 = .ok (.iload_n 3, 1) := by decide +kernel
theorem dX5_digest_132 : decode cX5_digest 132 = .ok (.imul, 1) := by decide +kernel
theorem dX5_digest_133 : decode cX5_digest 133 = .ok (.bipush 30, 2) := by decide +kernel
theorem dX5_digest_135 : decode cX5_digest 135 = .ok (.iadd, 1) := by decide +kernel
theorem dX5_digest_136 : decode cX5_digest 136 = .ok (.if_icmp .ge 43, 3) := by decide +kernel
theorem dX5_digest_139 : decode cX5_digest 139 = .ok (.lload_n 1, 1) := by decide +kernel
theorem dX5_digest_140 : decode cX5_digest 140 = .ok (.ldc2_w 122, 3) := by decide +kernel
theorem dX5_digest_143 : decode cX5_digest 143 = .ok (.lmul, 1) := by decide +kernel
theorem dX5_digest_144 : decode cX5_digest 144 = .ok (.aload_n 0, 1) := by decide +kernel
theorem dX5_digest_145 : decode cX5_digest 145 = .ok (.getfield 9, 3) := by decide +kernel
theorem dX5_digest_148 : decode cX5_digest 148 = .ok (.iload 4, 2) := by decide +kernel
theorem dX5_digest_150 : decode cX5_digest 150 = .ok (.iaload, 1) := by decide +kernel
theorem dX5_digest_151 : decode cX5_digest 151 = .ok (.bipush 32, 2) := by decide +kernel
theorem dX5_digest_153 : decode cX5_digest 153 = .ok (.irem, 1) := by decide +kernel
theorem dX5_digest_154 : decode cX5_digest 154 = .ok (.i2l, 1) := by decide +kernel
theorem dX5_digest_155 : decode cX5_digest 155 = .ok (.ladd, 1) := by decide +kernel
theorem dX5_digest_156 : decode cX5_digest 156 = .ok (.ldc2_w 122, 3) := by decide +kernel
theorem dX5_digest_159 : decode cX5_digest 159 = .ok (.lmul, 1) := by decide +kernel
theorem dX5_digest_160 : decode cX5_digest 160 = .ok (.aload_n 0, 1) := by decide +kernel
theorem dX5_digest_161 : decode cX5_digest 161 = .ok (.getfield 9, 3) := by decide +kernel
theorem dX5_digest_164 : decode cX5_digest 164 = .ok (.iload 4, 2) := by decide +kernel
theorem dX5_digest_166 : decode cX5_digest 166 = .ok (.iaload, 1) := by decide +kernel
theorem dX5_digest_167 : decode cX5_digest 167 = .ok (.invokestatic 77, 3) := by decide +kernel
theorem dX5_digest_170 : decode cX5_digest 170 = .ok (.i2l, 1) := by decide +kernel
theorem dX5_digest_171 : decode cX5_digest 171 = .ok (.ladd, 1) := by decide +kernel
theorem dX5_digest_172 : decode cX5_digest 172 = .ok (.lstore_n 1, 1) := by decide +kernel
theorem dX5_digest_173 : decode cX5_digest 173 = .ok (.iinc 4 1, 3) := by decide +kernel
theorem dX5_digest_176 : decode cX5_digest 176 = .ok (.goto (-49), 3) := by decide +kernel
theorem dX5_digest_179 : decode cX5_digest 179 = .ok (.iinc 3 1, 3) := by decide +kernel
theorem dX5_digest_182 : decode cX5_digest 182 = .ok (.goto (-100), 3) := by decide +kernel
theorem dX5_digest_185 : decode cX5_digest 185 = .ok (.lload_n 1, 1) := by decide +kernel
theorem dX5_digest_186 : decode cX5_digest 186 = .ok (.lreturn, 1) := by decide +kernel
theorem dJ9_max_7cf53_0 : decode cJ9_max_7cf53 0 = .ok (.iload_n 0, 1) := by decide +kernel
theorem dJ9_max_7cf53_1 : decode cJ9_max_7cf53 1 = .ok (.iload_n 1, 1) := by decide +kernel
theorem dJ9_max_7cf53_2 : decode cJ9_max_7cf53 2 = .ok (.if_icmp .lt 7, 3) := by decide +kernel
theorem dJ9_max_7cf53_5 : decode cJ9_max_7cf53 5 = .ok (.iload_n 0, 1) := by decide +kernel
theorem dJ9_max_7cf53_6 : decode cJ9_max_7cf53 6 = .ok (.goto 4, 3) := by decide +kernel
theorem dJ9_max_7cf53_9 : decode cJ9_max_7cf53 9 = .ok (.iload_n 1, 1) := by decide +kernel
theorem dJ9_max_7cf53_10 : decode cJ9_max_7cf53 10 = .ok (.ireturn, 1) := by decide +kernel
theorem dJ9_min_7cf53_0 : decode cJ9_min_7cf53 0 = .ok (.iload_n 0, 1) := by decide +kernel
theorem dJ9_min_7cf53_1 : decode cJ9_min_7cf53 1 = .ok (.iload_n 1, 1) := by decide +kernel
theorem dJ9_min_7cf53_2 : decode cJ9_min_7cf53 2 = .ok (.if_icmp .gt 7, 3) := by decide +kernel
theorem dJ9_min_7cf53_5 : decode cJ9_min_7cf53 5 = .ok (.iload_n 0, 1) := by decide +kernel
theorem dJ9_min_7cf53_6 : decode cJ9_min_7cf53 6 = .ok (.goto 4, 3) := by decide +kernel
theorem dJ9_min_7cf53_9 : decode cJ9_min_7cf53 9 = .ok (.iload_n 1, 1) := by decide +kernel
theorem dJ9_min_7cf53_10 : decode cJ9_min_7cf53 10 = .ok (.ireturn, 1) := by decide +kernel
set_option maxRecDepth 20000 in
theorem ggL_setFeed_X4_setFeed : GoodIn wsL_setFeed wsX4_setFeed := goodIn_ca (goodIn_r _ [6, 7, 8, 9, 10, 11, 5, 12, 13, 14, 15, 16, 17, 18, 19, 20, 21, 22, 23, 24] (by decide +kernel) (by decide +kernel)) (goodIn_sub (fun _ h => List.mem_cons_of_mem _ (List.mem_append_right _ h)) (by decide +kernel))
set_option maxRecDepth 20000 in
theorem gL_setFeed_X4_setFeed : GoodIn wsL_setFeed (wsV RL 7 RX4 yX4_setFeed wsX4_setFeed) := goodIn_app (goodIn_of _ (by decide +kernel)) ggL_setFeed_X4_setFeed
theorem dL_setFeed_0 : decode cL_setFeed 0 = .ok (.aload_n 3, 1) := by decide +kernel
theorem dL_setFeed_1 : decode cL_setFeed 1 = .ok (.iconst 0, 1) := by decide +kernel
theorem dL_setFeed_2 : decode cL_setFeed 2 = .ok (.aload_n 0, 1) := by decide +kernel
theorem dL_setFeed_3 : decode cL_setFeed 3 = .ok (.iload_n 1, 1) := by decide +kernel
theorem dL_setFeed_4 : decode cL_setFeed 4 = .ok (.iload_n 2, 1) := by decide +kernel
theorem dL_setFeed_5 : decode cL_setFeed 5 = .ok (.invokevirtual 7, 3) := by decide +kernel
theorem dL_setFeed_8 : decode cL_setFeed 8 = .ok (.i2l, 1) := by decide +kernel
theorem dL_setFeed_9 : decode cL_setFeed 9 = .ok (.lastore, 1) := by decide +kernel
theorem dL_setFeed_10 : decode cL_setFeed 10 = .ok (.goto 7, 3) := by decide +kernel
theorem dL_setFeed_13 : decode cL_setFeed 13 = .ok (.astore 4, 2) := by decide +kernel
theorem dL_setFeed_15 : decode cL_setFeed 15 = .ok (.iconst 1, 1) := by decide +kernel
theorem dL_setFeed_16 : decode cL_setFeed 16 = .ok (.ireturn, 1) := by decide +kernel
theorem dL_setFeed_17 : decode cL_setFeed 17 = .ok (.iconst 0, 1) := by decide +kernel
theorem dL_setFeed_18 : decode cL_setFeed 18 = .ok (.ireturn, 1) := by decide +kernel
set_option maxRecDepth 20000 in
theorem ggL_roll_X4_roll : GoodIn wsL_roll wsX4_roll := goodIn_ca (goodIn_r _ [6, 7, 8, 9, 10, 11, 5, 12, 13, 14, 15, 16, 17, 18, 19, 20, 21, 22, 23, 24] (by decide +kernel) (by decide +kernel)) (goodIn_sub (fun _ h => List.mem_cons_of_mem _ (List.mem_append_right _ h)) (by decide +kernel))
set_option maxRecDepth 20000 in
theorem gL_roll_X4_roll : GoodIn wsL_roll (wsV RL 15 RX4 yX4_roll wsX4_roll) := goodIn_app (goodIn_of _ (by decide +kernel)) ggL_roll_X4_roll
theorem dL_roll_0 : decode cL_roll 0 = .ok (.aload_n 3, 1) := by decide +kernel
theorem dL_roll_1 : decode cL_roll 1 = .ok (.iconst 0, 1) := by decide +kernel
theorem dL_roll_2 : decode cL_roll 2 = .ok (.aload_n 0, 1) := by decide +kernel
theorem dL_roll_3 : decode cL_roll 3 = .ok (.iload_n 1, 1) := by decide +kernel
theorem dL_roll_4 : decode cL_roll 4 = .ok (.iload_n 2, 1) := by decide +kernel
theorem dL_roll_5 : decode cL_roll 5 = .ok (.invokevirtual 15, 3) := by decide +kernel
theorem dL_roll_8 : decode cL_roll 8 = .ok (.i2l, 1) := by decide +kernel
theorem dL_roll_9 : decode cL_roll 9 = .ok (.lastore, 1) := by decide +kernel
theorem dL_roll_10 : decode cL_roll 10 = .ok (.goto 7, 3) := by decide +kernel
theorem dL_roll_13 : decode cL_roll 13 = .ok (.astore 4, 2) := by decide +kernel
theorem dL_roll_15 : decode cL_roll 15 = .ok (.iconst 1, 1) := by decide +kernel
theorem dL_roll_16 : decode cL_roll 16 = .ok (.ireturn, 1) := by decide +kernel
theorem dL_roll_17 : decode cL_roll 17 = .ok (.iconst 0, 1) := by decide +kernel
theorem dL_roll_18 : decode cL_roll 18 = .ok (.ireturn, 1) := by decide +kernel
set_option maxRecDepth 20000 in
theorem ggL_fit_X4_fit : GoodIn wsL_fit wsX4_fit := goodIn_ca (goodIn_ca (goodIn_r _ [7, 8, 9, 10, 11, 12, 6, 13, 14, 15, 16, 17, 18, 19, 20, 21, 22, 23, 24, 25, 26, 27, 28, 29, 30, 31, 32] (by decide +kernel) (by decide +kernel)) (goodIn_sub (fun _ h => List.mem_cons_of_mem _ (List.mem_append_left _ (List.mem_append_right _ h))) (by decide +kernel))) (goodIn_sub (fun _ h => List.mem_cons_of_mem _ (List.mem_append_right _ h)) (by decide +kernel))
set_option maxRecDepth 20000 in
theorem gL_fit_X4_fit : GoodIn wsL_fit (wsV RL 18 RX4 yX4_fit wsX4_fit) := goodIn_app (goodIn_of _ (by decide +kernel)) ggL_fit_X4_fit
theorem dL_fit_0 : decode cL_fit 0 = .ok (.aload_n 3, 1) := by decide +kernel
theorem dL_fit_1 : decode cL_fit 1 = .ok (.iconst 0, 1) := by decide +kernel
theorem dL_fit_2 : decode cL_fit 2 = .ok (.aload_n 0, 1) := by decide +kernel
theorem dL_fit_3 : decode cL_fit 3 = .ok (.iload_n 1, 1) := by decide +kernel
theorem dL_fit_4 : decode cL_fit 4 = .ok (.iload_n 2, 1) := by decide +kernel
theorem dL_fit_5 : decode cL_fit 5 = .ok (.invokevirtual 18, 3) := by decide +kernel
theorem dL_fit_8 : decode cL_fit 8 = .ok (.i2l, 1) := by decide +kernel
theorem dL_fit_9 : decode cL_fit 9 = .ok (.lastore, 1) := by decide +kernel
theorem dL_fit_10 : decode cL_fit 10 = .ok (.goto 11, 3) := by decide +kernel
theorem dL_fit_13 : decode cL_fit 13 = .ok (.astore 4, 2) := by decide +kernel
theorem dL_fit_15 : decode cL_fit 15 = .ok (.iconst 1, 1) := by decide +kernel
theorem dL_fit_16 : decode cL_fit 16 = .ok (.ireturn, 1) := by decide +kernel
theorem dL_fit_17 : decode cL_fit 17 = .ok (.astore 4, 2) := by decide +kernel
theorem dL_fit_19 : decode cL_fit 19 = .ok (.iconst 2, 1) := by decide +kernel
theorem dL_fit_20 : decode cL_fit 20 = .ok (.ireturn, 1) := by decide +kernel
theorem dL_fit_21 : decode cL_fit 21 = .ok (.iconst 0, 1) := by decide +kernel
theorem dL_fit_22 : decode cL_fit 22 = .ok (.ireturn, 1) := by decide +kernel
set_option maxRecDepth 20000 in
theorem ggL_turn_X4_turn : GoodIn wsL_turn wsX4_turn := goodIn_ca (goodIn_r _ [6, 7, 8, 9, 5, 10, 11, 12, 13, 14, 15, 16, 17, 18, 19, 20] (by decide +kernel) (by decide +kernel)) (goodIn_sub (fun _ h => List.mem_cons_of_mem _ (List.mem_append_right _ h)) (by decide +kernel))
set_option maxRecDepth 20000 in
theorem gL_turn_X4_turn : GoodIn wsL_turn (wsV RL 23 RX4 yX4_turn wsX4_turn) := goodIn_app (goodIn_of _ (by decide +kernel)) ggL_turn_X4_turn
theorem dL_turn_0 : decode cL_turn 0 = .ok (.aload_n 3, 1) := by decide +kernel
theorem dL_turn_1 : decode cL_turn 1 = .ok (.iconst 0, 1) := by decide +kernel
theorem dL_turn_2 : decode cL_turn 2 = .ok (.aload_n 0, 1) := by decide +kernel
theorem dL_turn_3 : decode cL_turn 3 = .ok (.iload_n 1, 1) := by decide +kernel
theorem dL_turn_4 : decode cL_turn 4 = .ok (.iload_n 2, 1) := by decide +kernel
theorem dL_turn_5 : decode cL_turn 5 = .ok (.invokevirtual 23, 3) := by decide +kernel
theorem dL_turn_8 : decode cL_turn 8 = .ok (.ifCond .eq 7, 3) := by decide +kernel
theorem dL_turn_11 : decode cL_turn 11 = .ok (.lconst 1, 1) := by decide +kernel
theorem dL_turn_12 : decode cL_turn 12 = .ok (.goto 4, 3) := by decide +kernel
theorem dL_turn_15 : decode cL_turn 15 = .ok (.lconst 0, 1) := by decide +kernel
theorem dL_turn_16 : decode cL_turn 16 = .ok (.lastore, 1) := by decide +kernel
theorem dL_turn_17 : decode cL_turn 17 = .ok (.goto 7, 3) := by decide +kernel
theorem dL_turn_20 : decode cL_turn 20 = .ok (.astore 4, 2) := by decide +kernel
theorem dL_turn_22 : decode cL_turn 22 = .ok (.iconst 1, 1) := by decide +kernel
theorem dL_turn_23 : decode cL_turn 23 = .ok (.ireturn, 1) := by decide +kernel
theorem dL_turn_24 : decode cL_turn 24 = .ok (.iconst 0, 1) := by decide +kernel
theorem dL_turn_25 : decode cL_turn 25 = .ok (.ireturn, 1) := by decide +kernel
set_option maxRecDepth 20000 in
theorem ggL_run_X4_run : GoodIn wsL_run wsX4_run := goodIn_ca (goodIn_r _ [6, 7, 8, 9, 10, 11, 12, 13, 14, 15, 16, 17, 18, 19, 20, 21, 22, 23, 24, 25, 26, 27, 28, 29, 30, 31, 32, 33, 34, 5, 35, 36, 37, 38, 39, 40, 41, 42, 43, 44, 45, 46, 47, 48, 49, 50, 51, 52, 53, 54, 55, 56, 57, 58, 59, 60, 61, 62, 63, 64, 65, 66, 67, 68, 69, 70, 71, 72, 73, 74, 75, 76, 77] (by decide +kernel) (by decide +kernel)) (goodIn_sub (fun _ h => List.mem_cons_of_mem _ (List.mem_append_right _ h)) (by decide +kernel))
set_option maxRecDepth 20000 in
theorem gL_run_X4_run : GoodIn wsL_run (wsV RL 27 RX4 yX4_run wsX4_run) := goodIn_app (goodIn_of _ (by decide +kernel)) ggL_run_X4_run
theorem dL_run_0 : decode cL_run 0 = .ok (.aload_n 1, 1) := by decide +kernel
theorem dL_run_1 : decode cL_run 1 = .ok (.iconst 0, 1) := by decide +kernel
theorem dL_run_2 : decode cL_run 2 = .ok (.aload_n 0, 1) := by decide +kernel
theorem dL_run_3 : decode cL_run 3 = .ok (.invokevirtual 27, 3) := by decide +kernel
theorem dL_run_6 : decode cL_run 6 = .ok (.i2l, 1) := by decide +kernel
theorem dL_run_7 : decode cL_run 7 = .ok (.lastore, 1) := by decide +kernel
theorem dL_run_8 : decode cL_run 8 = .ok (.goto 6, 3) := by decide +kernel
theorem dL_run_11 : decode cL_run 11 = .ok (.astore_n 2, 1) := by decide +kernel
theorem dL_run_12 : decode cL_run 12 = .ok (.iconst 1, 1) := by decide +kernel
theorem dL_run_13 : decode cL_run 13 = .ok (.ireturn, 1) := by decide +kernel
theorem dL_run_14 : decode cL_run 14 = .ok (.iconst 0, 1) := by decide +kernel
theorem dL_run_15 : decode cL_run 15 = .ok (.ireturn, 1) := by decide +kernel
set_option maxRecDepth 20000 in
theorem ggL_faults_X4_faults : GoodIn wsL_faults wsX4_faults := goodIn_ca (goodIn_r _ [6, 7, 8, 9, 10, 5, 11, 12, 13, 14, 15, 16, 17, 18, 19, 20, 21, 22, 23, 24, 25, 26, 27] (by decide +kernel) (by decide +kernel)) (goodIn_sub (fun _ h => List.mem_cons_of_mem _ (List.mem_append_right _ h)) (by decide +kernel))
set_option maxRecDepth 20000 in
theorem gL_faults_X4_faults : GoodIn wsL_faults (wsV RL 33 RX4 yX4_faults wsX4_faults) := goodIn_app (goodIn_of _ (by decide +kernel)) ggL_faults_X4_faults
theorem dL_faults_0 : decode cL_faults 0 = .ok (.aload 4, 2) := by decide +kernel
theorem dL_faults_2 : decode cL_faults 2 = .ok (.iconst 0, 1) := by decide +kernel
theorem dL_faults_3 : decode cL_faults 3 = .ok (.aload_n 0, 1) := by decide +kernel
theorem dL_faults_4 : decode cL_faults 4 = .ok (.iload_n 1, 1) := by decide +kernel
theorem dL_faults_5 : decode cL_faults 5 = .ok (.iload_n 2, 1) := by decide +kernel
theorem dL_faults_6 : decode cL_faults 6 = .ok (.iload_n 3, 1) := by decide +kernel
theorem dL_faults_7 : decode cL_faults 7 = .ok (.invokevirtual 33, 3) := by decide +kernel
theorem dL_faults_10 : decode cL_faults 10 = .ok (.i2l, 1) := by decide +kernel
theorem dL_faults_11 : decode cL_faults 11 = .ok (.lastore, 1) := by decide +kernel
theorem dL_faults_12 : decode cL_faults 12 = .ok (.goto 7, 3) := by decide +kernel
theorem dL_faults_15 : decode cL_faults 15 = .ok (.astore 5, 2) := by decide +kernel
theorem dL_faults_17 : decode cL_faults 17 = .ok (.iconst 1, 1) := by decide +kernel
theorem dL_faults_18 : decode cL_faults 18 = .ok (.ireturn, 1) := by decide +kernel
theorem dL_faults_19 : decode cL_faults 19 = .ok (.iconst 0, 1) := by decide +kernel
theorem dL_faults_20 : decode cL_faults 20 = .ok (.ireturn, 1) := by decide +kernel
set_option maxRecDepth 20000 in
theorem ggL_tear_X4_tear : GoodIn wsL_tear wsX4_tear := goodIn_ca (goodIn_ca (goodIn_r _ [7, 8, 9, 10, 11, 12, 13, 6, 14, 15, 16, 17, 18, 19, 20, 21, 22, 23, 24, 25, 26, 27, 28, 29, 30, 31, 32, 33, 34, 35, 36, 37] (by decide +kernel) (by decide +kernel)) (goodIn_sub (fun _ h => List.mem_cons_of_mem _ (List.mem_append_left _ (List.mem_append_right _ h))) (by decide +kernel))) (goodIn_sub (fun _ h => List.mem_cons_of_mem _ (List.mem_append_right _ h)) (by decide +kernel))
set_option maxRecDepth 20000 in
theorem gL_tear_X4_tear : GoodIn wsL_tear (wsV RL 37 RX4 yX4_tear wsX4_tear) := goodIn_app (goodIn_of _ (by decide +kernel)) ggL_tear_X4_tear
theorem dL_tear_0 : decode cL_tear 0 = .ok (.aload 4, 2) := by decide +kernel
theorem dL_tear_2 : decode cL_tear 2 = .ok (.iconst 0, 1) := by decide +kernel
theorem dL_tear_3 : decode cL_tear 3 = .ok (.aload_n 0, 1) := by decide +kernel
theorem dL_tear_4 : decode cL_tear 4 = .ok (.iload_n 1, 1) := by decide +kernel
theorem dL_tear_5 : decode cL_tear 5 = .ok (.iload_n 2, 1) := by decide +kernel
theorem dL_tear_6 : decode cL_tear 6 = .ok (.iload_n 3, 1) := by decide +kernel
theorem dL_tear_7 : decode cL_tear 7 = .ok (.invokevirtual 37, 3) := by decide +kernel
theorem dL_tear_10 : decode cL_tear 10 = .ok (.i2l, 1) := by decide +kernel
theorem dL_tear_11 : decode cL_tear 11 = .ok (.lastore, 1) := by decide +kernel
theorem dL_tear_12 : decode cL_tear 12 = .ok (.goto 11, 3) := by decide +kernel
theorem dL_tear_15 : decode cL_tear 15 = .ok (.astore 5, 2) := by decide +kernel
theorem dL_tear_17 : decode cL_tear 17 = .ok (.iconst 1, 1) := by decide +kernel
theorem dL_tear_18 : decode cL_tear 18 = .ok (.ireturn, 1) := by decide +kernel
theorem dL_tear_19 : decode cL_tear 19 = .ok (.astore 5, 2) := by decide +kernel
theorem dL_tear_21 : decode cL_tear 21 = .ok (.iconst 2, 1) := by decide +kernel
theorem dL_tear_22 : decode cL_tear 22 = .ok (.ireturn, 1) := by decide +kernel
theorem dL_tear_23 : decode cL_tear 23 = .ok (.iconst 0, 1) := by decide +kernel
theorem dL_tear_24 : decode cL_tear 24 = .ok (.ireturn, 1) := by decide +kernel
set_option maxRecDepth 20000 in
theorem ggL_sheet_X4_sheet : GoodIn wsL_sheet wsX4_sheet := goodIn_ca (goodIn_r _ [6, 7, 8, 9, 10, 5, 11, 12, 13, 14, 15, 16, 17, 18, 19, 20, 21, 22, 23, 24, 25, 26, 27, 28, 29, 30, 31, 32, 33, 34, 35, 36, 37, 38, 39, 40, 41, 42, 43, 44, 45, 46, 47, 48, 49, 50, 51, 52, 53, 54, 55, 56, 57, 58, 59, 60, 61, 62, 63, 64, 65, 66, 67, 68, 69, 70, 71, 72, 73, 74, 75, 76, 77, 78, 79, 80, 81] (by decide +kernel) (by decide +kernel)) (goodIn_sub (fun _ h => List.mem_cons_of_mem _ (List.mem_append_right _ h)) (by decide +kernel))
set_option maxRecDepth 20000 in
theorem gL_sheet_X4_sheet : GoodIn wsL_sheet (wsV RL 40 RX4 yX4_sheet wsX4_sheet) := goodIn_app (goodIn_of _ (by decide +kernel)) ggL_sheet_X4_sheet
theorem dL_sheet_0 : decode cL_sheet 0 = .ok (.aload_n 3, 1) := by decide +kernel
theorem dL_sheet_1 : decode cL_sheet 1 = .ok (.iconst 0, 1) := by decide +kernel
theorem dL_sheet_2 : decode cL_sheet 2 = .ok (.aload_n 0, 1) := by decide +kernel
theorem dL_sheet_3 : decode cL_sheet 3 = .ok (.iload_n 1, 1) := by decide +kernel
theorem dL_sheet_4 : decode cL_sheet 4 = .ok (.iload_n 2, 1) := by decide +kernel
theorem dL_sheet_5 : decode cL_sheet 5 = .ok (.invokevirtual 40, 3) := by decide +kernel
theorem dL_sheet_8 : decode cL_sheet 8 = .ok (.i2l, 1) := by decide +kernel
theorem dL_sheet_9 : decode cL_sheet 9 = .ok (.lastore, 1) := by decide +kernel
theorem dL_sheet_10 : decode cL_sheet 10 = .ok (.goto 7, 3) := by decide +kernel
theorem dL_sheet_13 : decode cL_sheet 13 = .ok (.astore 4, 2) := by decide +kernel
theorem dL_sheet_15 : decode cL_sheet 15 = .ok (.iconst 1, 1) := by decide +kernel
theorem dL_sheet_16 : decode cL_sheet 16 = .ok (.ireturn, 1) := by decide +kernel
theorem dL_sheet_17 : decode cL_sheet 17 = .ok (.iconst 0, 1) := by decide +kernel
theorem dL_sheet_18 : decode cL_sheet 18 = .ok (.ireturn, 1) := by decide +kernel
set_option maxRecDepth 20000 in
theorem ggL_pin_X4_pin : GoodIn wsL_pin wsX4_pin := goodIn_ca (goodIn_r _ [6, 7, 8, 9, 5, 10, 11, 12, 13, 14, 15, 16, 17, 18, 19, 20, 21, 22, 23, 24, 25, 26, 27, 28, 29, 30, 31, 32, 33, 34, 35, 36, 37, 38, 39, 40, 41, 42, 43] (by decide +kernel) (by decide +kernel)) (goodIn_sub (fun _ h => List.mem_cons_of_mem _ (List.mem_append_right _ h)) (by decide +kernel))
set_option maxRecDepth 20000 in
theorem gL_pin_X4_pin : GoodIn wsL_pin (wsV RL 43 RX4 yX4_pin wsX4_pin) := goodIn_app (goodIn_of _ (by decide +kernel)) ggL_pin_X4_pin
