theorem dX5_init_81 : decode cX5_init 81 = .ok (.bipush 7, 2) := by decide +kernel
theorem dX5_init_83 : decode cX5_init 83 = .ok (.if_icmp .ge 18, 3) := by decide +kernel
theorem dX5_init_86 : decode cX5_init 86 = .ok (.aload_n 0, 1) := by decide +kernel
theorem dX5_init_87 : decode cX5_init 87 = .ok (.getfield 16, 3) := by decide +kernel
theorem dX5_init_90 : decode cX5_init 90 = .ok (.iload_n 1, 1) := by decide +kernel
theorem dX5_init_91 : decode cX5_init 91 = .ok (.sipush 200, 3) := by decide +kernel
theorem dX5_init_94 : decode cX5_init 94 = .ok (.iastore, 1) := by decide +kernel
theorem dX5_init_95 : decode cX5_init 95 = .ok (.iinc 1 1, 3) := by decide +kernel
theorem dX5_init_98 : decode cX5_init 98 = .ok (.goto (-18), 3) := by decide +kernel
theorem dX5_init_101 : decode cX5_init 101 = .ok (.return_, 1) := by decide +kernel
theorem dX5_thrown_0 : decode cX5_thrown 0 = .ok (.aload_n 0, 1) := by decide +kernel
theorem dX5_thrown_1 : decode cX5_thrown 1 = .ok (.getfield 29, 3) := by decide +kernel
theorem dX5_thrown_4 : decode cX5_thrown 4 = .ok (.ireturn, 1) := by decide +kernel
theorem dX5_fail_0 : decode cX5_fail 0 = .ok (.aload_n 0, 1) := by decide +kernel
theorem dX5_fail_1 : decode cX5_fail 1 = .ok (.iload_n 1, 1) := by decide +kernel
theorem dX5_fail_2 : decode cX5_fail 2 = .ok (.putfield 29, 3) := by decide +kernel
theorem dX5_fail_5 : decode cX5_fail 5 = .ok (.iconst 0, 1) := by decide +kernel
theorem dX5_fail_6 : decode cX5_fail 6 = .ok (.ireturn, 1) := by decide +kernel
theorem dX5_isIn_0 : decode cX5_isIn 0 = .ok (.iload_n 0, 1) := by decide +kernel
theorem dX5_isIn_1 : decode cX5_isIn 1 = .ok (.iload_n 1, 1) := by decide +kernel
theorem dX5_isIn_2 : decode cX5_isIn 2 = .ok (.if_icmp .lt 12, 3) := by decide +kernel
theorem dX5_isIn_5 : decode cX5_isIn 5 = .ok (.iload_n 0, 1) := by decide +kernel
theorem dX5_isIn_6 : decode cX5_isIn 6 = .ok (.iload_n 2, 1) := by decide +kernel
theorem dX5_isIn_7 : decode cX5_isIn 7 = .ok (.if_icmp .gt 7, 3) := by decide +kernel
theorem dX5_isIn_10 : decode cX5_isIn 10 = .ok (.iconst 1, 1) := by decide +kernel
theorem dX5_isIn_11 : decode cX5_isIn 11 = .ok (.goto 4, 3) := by decide +kernel
theorem dX5_isIn_14 : decode cX5_isIn 14 = .ok (.iconst 0, 1) := by decide +kernel
theorem dX5_isIn_15 : decode cX5_isIn 15 = .ok (.ireturn, 1) := by decide +kernel
set_option maxRecDepth 20000 in
theorem ggX5_isSheet_X5_isIn : GoodIn wsX5_isSheet wsX5_isIn := goodIn_r _ [5] (by decide +kernel) (by decide +kernel)
set_option maxRecDepth 20000 in
theorem gX5_isSheet_X5_isIn : GoodIn wsX5_isSheet (va_wsS RX5 36 yX5_isIn wsX5_isIn) := goodIn_app (goodIn_of _ (by decide +kernel)) ggX5_isSheet_X5_isIn
theorem dX5_isSheet_0 : decode cX5_isSheet 0 = .ok (.iload_n 1, 1) := by decide +kernel
theorem dX5_isSheet_1 : decode cX5_isSheet 1 = .ok (.iconst 0, 1) := by decide +kernel
theorem dX5_isSheet_2 : decode cX5_isSheet 2 = .ok (.aload_n 0, 1) := by decide +kernel
theorem dX5_isSheet_3 : decode cX5_isSheet 3 = .ok (.getfield 33, 3) := by decide +kernel
theorem dX5_isSheet_6 : decode cX5_isSheet 6 = .ok (.iconst 1, 1) := by decide +kernel
theorem dX5_isSheet_7 : decode cX5_isSheet 7 = .ok (.isub, 1) := by decide +kernel
theorem dX5_isSheet_8 : decode cX5_isSheet 8 = .ok (.invokestatic 36, 3) := by decide +kernel
theorem dX5_isSheet_11 : decode cX5_isSheet 11 = .ok (.ireturn, 1) := by decide +kernel
set_option maxRecDepth 20000 in
theorem ggX5_isPlace_X5_isIn : GoodIn wsX5_isPlace wsX5_isIn := goodIn_r _ [4] (by decide +kernel) (by decide +kernel)
set_option maxRecDepth 20000 in
theorem gX5_isPlace_X5_isIn : GoodIn wsX5_isPlace (va_wsS RX5 36 yX5_isIn wsX5_isIn) := goodIn_app (goodIn_of _ (by decide +kernel)) ggX5_isPlace_X5_isIn
theorem dX5_isPlace_0 : decode cX5_isPlace 0 = .ok (.iload_n 0, 1) := by decide +kernel
theorem dX5_isPlace_1 : decode cX5_isPlace 1 = .ok (.iconst 0, 1) := by decide +kernel
theorem dX5_isPlace_2 : decode cX5_isPlace 2 = .ok (.iconst 4, 1) := by decide +kernel
theorem dX5_isPlace_3 : decode cX5_isPlace 3 = .ok (.invokestatic 36, 3) := by decide +kernel
theorem dX5_isPlace_6 : decode cX5_isPlace 6 = .ok (.ifCond .eq 16, 3) := by decide +kernel
theorem dX5_isPlace_9 : decode cX5_isPlace 9 = .ok (.iload_n 1, 1) := by decide +kernel
theorem dX5_isPlace_10 : decode cX5_isPlace 10 = .ok (.iconst 0, 1) := by decide +kernel
theorem dX5_isPlace_11 : decode cX5_isPlace 11 = .ok (.iconst 5, 1) := by decide +kernel
theorem dX5_isPlace_12 : decode cX5_isPlace 12 = .ok (.invokestatic 36, 3) := by decide +kernel
theorem dX5_isPlace_15 : decode cX5_isPlace 15 = .ok (.ifCond .eq 7, 3) := by decide +kernel
theorem dX5_isPlace_18 : decode cX5_isPlace 18 = .ok (.iconst 1, 1) := by decide +kernel
theorem dX5_isPlace_19 : decode cX5_isPlace 19 = .ok (.goto 4, 3) := by decide +kernel
theorem dX5_isPlace_22 : decode cX5_isPlace 22 = .ok (.iconst 0, 1) := by decide +kernel
theorem dX5_isPlace_23 : decode cX5_isPlace 23 = .ok (.ireturn, 1) := by decide +kernel
theorem dX5_isWhole_0 : decode cX5_isWhole 0 = .ok (.aload_n 0, 1) := by decide +kernel
theorem dX5_isWhole_1 : decode cX5_isWhole 1 = .ok (.getfield 19, 3) := by decide +kernel
theorem dX5_isWhole_4 : decode cX5_isWhole 4 = .ok (.iload_n 1, 1) := by decide +kernel
theorem dX5_isWhole_5 : decode cX5_isWhole 5 = .ok (.iaload, 1) := by decide +kernel
theorem dX5_isWhole_6 : decode cX5_isWhole 6 = .ok (.aload_n 0, 1) := by decide +kernel
theorem dX5_isWhole_7 : decode cX5_isWhole 7 = .ok (.getfield 16, 3) := by decide +kernel
theorem dX5_isWhole_10 : decode cX5_isWhole 10 = .ok (.iload_n 1, 1) := by decide +kernel
theorem dX5_isWhole_11 : decode cX5_isWhole 11 = .ok (.iaload, 1) := by decide +kernel
theorem dX5_isWhole_12 : decode cX5_isWhole 12 = .ok (.if_icmp .gt 7, 3) := by decide +kernel
theorem dX5_isWhole_15 : decode cX5_isWhole 15 = .ok (.iconst 1, 1) := by decide +kernel
theorem dX5_isWhole_16 : decode cX5_isWhole 16 = .ok (.goto 4, 3) := by decide +kernel
theorem dX5_isWhole_19 : decode cX5_isWhole 19 = .ok (.iconst 0, 1) := by decide +kernel
theorem dX5_isWhole_20 : decode cX5_isWhole 20 = .ok (.ireturn, 1) := by decide +kernel
set_option maxRecDepth 20000 in
theorem ggX5_setFeed_X5_isIn : GoodIn wsX5_setFeed wsX5_isIn := goodIn_r _ [6] (by decide +kernel) (by decide +kernel)
set_option maxRecDepth 20000 in
theorem gX5_setFeed_X5_isIn : GoodIn wsX5_setFeed (va_wsS RX5 36 yX5_isIn wsX5_isIn) := goodIn_app (goodIn_of _ (by decide +kernel)) ggX5_setFeed_X5_isIn
set_option maxRecDepth 20000 in
theorem ggX5_setFeed_X5_fail : GoodIn wsX5_setFeed wsX5_fail := goodIn_r _ [10, 1, 11, 12, 13, 14, 15, 16, 17, 18] (by decide +kernel) (by decide +kernel)
set_option maxRecDepth 20000 in
theorem gX5_setFeed_X5_fail : GoodIn wsX5_setFeed (wsV RX5 40 RX5 yX5_fail wsX5_fail) := goodIn_app (goodIn_of _ (by decide +kernel)) ggX5_setFeed_X5_fail
theorem dX5_setFeed_0 : decode cX5_setFeed 0 = .ok (.aload_n 0, 1) := by decide +kernel
theorem dX5_setFeed_1 : decode cX5_setFeed 1 = .ok (.iconst 0, 1) := by decide +kernel
theorem dX5_setFeed_2 : decode cX5_setFeed 2 = .ok (.putfield 29, 3) := by decide +kernel
theorem dX5_setFeed_5 : decode cX5_setFeed 5 = .ok (.iload_n 1, 1) := by decide +kernel
theorem dX5_setFeed_6 : decode cX5_setFeed 6 = .ok (.bipush 10, 2) := by decide +kernel
theorem dX5_setFeed_8 : decode cX5_setFeed 8 = .ok (.bipush 30, 2) := by decide +kernel
theorem dX5_setFeed_10 : decode cX5_setFeed 10 = .ok (.invokestatic 36, 3) := by decide +kernel
theorem dX5_setFeed_13 : decode cX5_setFeed 13 = .ok (.ifCond .eq 14, 3) := by decide +kernel
theorem dX5_setFeed_16 : decode cX5_setFeed 16 = .ok (.iload_n 2, 1) := by decide +kernel
theorem dX5_setFeed_17 : decode cX5_setFeed 17 = .ok (.bipush (-9), 2) := by decide +kernel
theorem dX5_setFeed_19 : decode cX5_setFeed 19 = .ok (.bipush 9, 2) := by decide +kernel
theorem dX5_setFeed_21 : decode cX5_setFeed 21 = .ok (.invokestatic 36, 3) := by decide +kernel
theorem dX5_setFeed_24 : decode cX5_setFeed 24 = .ok (.ifCond .ne 9, 3) := by decide +kernel
theorem dX5_setFeed_27 : decode cX5_setFeed 27 = .ok (.aload_n 0, 1) := by decide +kernel
theorem dX5_setFeed_28 : decode cX5_setFeed 28 = .ok (.iconst 1, 1) := by decide +kernel
theorem dX5_setFeed_29 : decode cX5_setFeed 29 = .ok (.invokevirtual 40, 3) := by decide +kernel
theorem dX5_setFeed_32 : decode cX5_setFeed 32 = .ok (.ireturn, 1) := by decide +kernel
theorem dX5_setFeed_33 : decode cX5_setFeed 33 = .ok (.bipush 100, 2) := by decide +kernel
theorem dX5_setFeed_35 : decode cX5_setFeed 35 = .ok (.aload_n 0, 1) := by decide +kernel
theorem dX5_setFeed_36 : decode cX5_setFeed 36 = .ok (.getfield 13, 3) := by decide +kernel
theorem dX5_setFeed_39 : decode cX5_setFeed 39 = .ok (.iconst 0, 1) := by decide +kernel
theorem dX5_setFeed_40 : decode cX5_setFeed 40 = .ok (.iaload, 1) := by decide +kernel
theorem dX5_setFeed_41 : decode cX5_setFeed 41 = .ok (.imul, 1) := by decide +kernel
theorem dX5_setFeed_42 : decode cX5_setFeed 42 = .ok (.aload_n 0, 1) := by decide +kernel
theorem dX5_setFeed_43 : decode cX5_setFeed 43 = .ok (.getfield 13, 3) := by decide +kernel
theorem dX5_setFeed_46 : decode cX5_setFeed 46 = .ok (.iconst 1, 1) := by decide +kernel
theorem dX5_setFeed_47 : decode cX5_setFeed 47 = .ok (.iaload, 1) := by decide +kernel
theorem dX5_setFeed_48 : decode cX5_setFeed 48 = .ok (.iadd, 1) := by decide +kernel
theorem dX5_setFeed_49 : decode cX5_setFeed 49 = .ok (.istore_n 3, 1) := by decide +kernel
theorem dX5_setFeed_50 : decode cX5_setFeed 50 = .ok (.aload_n 0, 1) := by decide +kernel
theorem dX5_setFeed_51 : decode cX5_setFeed 51 = .ok (.getfield 13, 3) := by decide +kernel
theorem dX5_setFeed_54 : decode cX5_setFeed 54 = .ok (.iconst 0, 1) := by decide +kernel
theorem dX5_setFeed_55 : decode cX5_setFeed 55 = .ok (.iload_n 1, 1) := by decide +kernel
theorem dX5_setFeed_56 : decode cX5_setFeed 56 = .ok (.iastore, 1) := by decide +kernel
theorem dX5_setFeed_57 : decode cX5_setFeed 57 = .ok (.aload_n 0, 1) := by decide +kernel
theorem dX5_setFeed_58 : decode cX5_setFeed 58 = .ok (.getfield 13, 3) := by decide +kernel
theorem dX5_setFeed_61 : decode cX5_setFeed 61 = .ok (.iconst 1, 1) := by decide +kernel
theorem dX5_setFeed_62 : decode cX5_setFeed 62 = .ok (.iload_n 2, 1) := by decide +kernel
theorem dX5_setFeed_63 : decode cX5_setFeed 63 = .ok (.iastore, 1) := by decide +kernel
theorem dX5_setFeed_64 : decode cX5_setFeed 64 = .ok (.iload_n 3, 1) := by decide +kernel
theorem dX5_setFeed_65 : decode cX5_setFeed 65 = .ok (.ireturn, 1) := by decide +kernel
theorem dX5_align_0 : decode cX5_align 0 = .ok (.aload_n 0, 1) := by decide +kernel
theorem dX5_align_1 : decode cX5_align 1 = .ok (.iconst 0, 1) := by decide +kernel
theorem dX5_align_2 : decode cX5_align 2 = .ok (.putfield 29, 3) := by decide +kernel
theorem dX5_align_5 : decode cX5_align 5 = .ok (.aload_n 0, 1) := by decide +kernel
theorem dX5_align_6 : decode cX5_align 6 = .ok (.getfield 13, 3) := by decide +kernel
theorem dX5_align_9 : decode cX5_align 9 = .ok (.iconst 2, 1) := by decide +kernel
theorem dX5_align_10 : decode cX5_align 10 = .ok (.iaload, 1) := by decide +kernel
theorem dX5_align_11 : decode cX5_align 11 = .ok (.istore_n 1, 1) := by decide +kernel
theorem dX5_align_12 : decode cX5_align 12 = .ok (.aload_n 0, 1) := by decide +kernel
theorem dX5_align_13 : decode cX5_align 13 = .ok (.getfield 13, 3) := by decide +kernel
theorem dX5_align_16 : decode cX5_align 16 = .ok (.iconst 2, 1) := by decide +kernel
theorem dX5_align_17 : decode cX5_align 17 = .ok (.iconst 0, 1) := by decide +kernel
theorem dX5_align_18 : decode cX5_align 18 = .ok (.iastore, 1) := by decide +kernel
theorem dX5_align_19 : decode cX5_align 19 = .ok (.iload_n 1, 1) := by decide +kernel
theorem dX5_align_20 : decode cX5_align 20 = .ok (.ireturn, 1) := by decide +kernel
set_option maxRecDepth 20000 in
theorem ggX5_roll_X5_isIn : GoodIn wsX5_roll wsX5_isIn := goodIn_r _ [6] (by decide +kernel) (by decide +kernel)
set_option maxRecDepth 20000 in
theorem gX5_roll_X5_isIn : GoodIn wsX5_roll (va_wsS RX5 36 yX5_isIn wsX5_isIn) := goodIn_app (goodIn_of _ (by decide +kernel)) ggX5_roll_X5_isIn
set_option maxRecDepth 20000 in
theorem ggX5_roll_X5_fail : GoodIn wsX5_roll wsX5_fail := goodIn_r _ [10, 1, 11, 12, 13, 14, 15, 16, 17, 18] (by decide +kernel) (by decide +kernel)
set_option maxRecDepth 20000 in
theorem gX5_roll_X5_fail : GoodIn wsX5_roll (wsV RX5 40 RX5 yX5_fail wsX5_fail) := goodIn_app (goodIn_of _ (by decide +kernel)) ggX5_roll_X5_fail
theorem dX5_roll_0 : decode cX5_roll 0 = .ok (.aload_n 0, 1) := by decide +kernel
theorem dX5_roll_1 : decode cX5_roll 1 = .ok (.iconst 0, 1) := by decide +kernel
theorem dX5_roll_2 : decode cX5_roll 2 = .ok (.putfield 29, 3) := by decide +kernel
theorem dX5_roll_5 : decode cX5_roll 5 = .ok (.iload_n 1, 1) := by decide +kernel
theorem dX5_roll_6 : decode cX5_roll 6 = .ok (.iconst 1, 1) := by decide +kernel
theorem dX5_roll_7 : decode cX5_roll 7 = .ok (.sipush 400, 3) := by decide +kernel
theorem dX5_roll_10 : decode cX5_roll 10 = .ok (.invokestatic 36, 3) := by decide +kernel
theorem dX5_roll_13 : decode cX5_roll 13 = .ok (.ifCond .eq 13, 3) := by decide +kernel
theorem dX5_roll_16 : decode cX5_roll 16 = .ok (.iload_n 2, 1) := by decide +kernel
theorem dX5_roll_17 : decode cX5_roll 17 = .ok (.iconst 1, 1) := by decide +kernel
theorem dX5_roll_18 : decode cX5_roll 18 = .ok (.bipush 9, 2) := by decide +kernel
theorem dX5_roll_20 : decode cX5_roll 20 = .ok (.invokestatic 36, 3) := by decide +kernel
theorem dX5_roll_23 : decode cX5_roll 23 = .ok (.ifCond .ne 9, 3) := by decide +kernel
theorem dX5_roll_26 : decode cX5_roll 26 = .ok (.aload_n 0, 1) := by decide +kernel
theorem dX5_roll_27 : decode cX5_roll 27 = .ok (.iconst 1, 1) := by decide +kernel
theorem dX5_roll_28 : decode cX5_roll 28 = .ok (.invokevirtual 40, 3) := by decide +kernel
theorem dX5_roll_31 : decode cX5_roll 31 = .ok (.ireturn, 1) := by decide +kernel
theorem dX5_roll_32 : decode cX5_roll 32 = .ok (.aload_n 0, 1) := by decide +kernel
theorem dX5_roll_33 : decode cX5_roll 33 = .ok (.getfield 13, 3) := by decide +kernel
theorem dX5_roll_36 : decode cX5_roll 36 = .ok (.iconst 3, 1) := by decide +kernel
theorem dX5_roll_37 : decode cX5_roll 37 = .ok (.iaload, 1) := by decide +kernel
theorem dX5_roll_38 : decode cX5_roll 38 = .ok (.istore_n 3, 1) := by decide +kernel
theorem dX5_roll_39 : decode cX5_roll 39 = .ok (.aload_n 0, 1) := by decide +kernel
theorem dX5_roll_40 : decode cX5_roll 40 = .ok (.getfield 13, 3) := by decide +kernel
theorem dX5_roll_43 : decode cX5_roll 43 = .ok (.iconst 3, 1) := by decide +kernel
theorem dX5_roll_44 : decode cX5_roll 44 = .ok (.iload_n 1, 1) := by decide +kernel
theorem dX5_roll_45 : decode cX5_roll 45 = .ok (.iastore, 1) := by decide +kernel
theorem dX5_roll_46 : decode cX5_roll 46 = .ok (.aload_n 0, 1) := by decide +kernel
theorem dX5_roll_47 : decode cX5_roll 47 = .ok (.getfield 13, 3) := by decide +kernel
theorem dX5_roll_50 : decode cX5_roll 50 = .ok (.iconst 4, 1) := by decide +kernel
theorem dX5_roll_51 : decode cX5_roll 51 = .ok (.iload_n 2, 1) := by decide +kernel
theorem dX5_roll_52 : decode cX5_roll 52 = .ok (.iastore, 1) := by decide +kernel
theorem dX5_roll_53 : decode cX5_roll 53 = .ok (.aload_n 0, 1) := by decide +kernel
theorem dX5_roll_54 : decode cX5_roll 54 = .ok (.getfield 13, 3) := by decide +kernel
theorem dX5_roll_57 : decode cX5_roll 57 = .ok (.iconst 5, 1) := by decide +kernel
theorem dX5_roll_58 : decode cX5_roll 58 = .ok (.iconst 0, 1) := by decide +kernel
theorem dX5_roll_59 : decode cX5_roll 59 = .ok (.iastore, 1) := by decide +kernel
theorem dX5_roll_60 : decode cX5_roll 60 = .ok (.iload_n 3, 1) := by decide +kernel
theorem dX5_roll_61 : decode cX5_roll 61 = .ok (.ireturn, 1) := by decide +kernel
set_option maxRecDepth 20000 in
theorem ggX5_fit_X5_isIn : GoodIn wsX5_fit wsX5_isIn := goodIn_r _ [7] (by decide +kernel) (by decide +kernel)
set_option maxRecDepth 20000 in
theorem gX5_fit_X5_isIn : GoodIn wsX5_fit (va_wsS RX5 36 yX5_isIn wsX5_isIn) := goodIn_app (goodIn_of _ (by decide +kernel)) ggX5_fit_X5_isIn
set_option maxRecDepth 20000 in
theorem ggX5_fit_X5_fail : GoodIn wsX5_fit wsX5_fail := goodIn_r _ [11, 1, 12, 13, 14, 15, 16, 17, 18, 19] (by decide +kernel) (by decide +kernel)
set_option maxRecDepth 20000 in
theorem gX5_fit_X5_fail : GoodIn wsX5_fit (wsV RX5 40 RX5 yX5_fail wsX5_fail) := goodIn_app (goodIn_of _ (by decide +kernel)) ggX5_fit_X5_fail
theorem dX5_fit_0 : decode cX5_fit 0 = .ok (.aload_n 0, 1) := by decide +kernel
theorem dX5_fit_1 : decode cX5_fit 1 = .ok (.iconst 0, 1) := by decide +kernel
theorem dX5_fit_2 : decode cX5_fit 2 = .ok (.putfield 29, 3) := by decide +kernel
theorem dX5_fit_5 : decode cX5_fit 5 = .ok (.iload_n 1, 1) := by decide +kernel
theorem dX5_fit_6 : decode cX5_fit 6 = .ok (.iconst 0, 1) := by decide +kernel
theorem dX5_fit_7 : decode cX5_fit 7 = .ok (.bipush 6, 2) := by decide +kernel
theorem dX5_fit_9 : decode cX5_fit 9 = .ok (.invokestatic 36, 3) := by decide +kernel
theorem dX5_fit_12 : decode cX5_fit 12 = .ok (.ifCond .ne 9, 3) := by decide +kernel
theorem dX5_fit_15 : decode cX5_fit 15 = .ok (.aload_n 0, 1) := by decide +kernel
theorem dX5_fit_16 : decode cX5_fit 16 = .ok (.iconst 1, 1) := by decide +kernel
theorem dX5_fit_17 : decode cX5_fit 17 = .ok (.invokevirtual 40, 3) := by decide +kernel
theorem dX5_fit_20 : decode cX5_fit 20 = .ok (.ireturn, 1) := by decide +kernel
theorem dX5_fit_21 : decode cX5_fit 21 = .ok (.iload_n 2, 1) := by decide +kernel
theorem dX5_fit_22 : decode cX5_fit 22 = .ok (.iconst 1, 1) := by decide +kernel
theorem dX5_fit_23 : decode cX5_fit 23 = .ok (.sipush 500, 3) := by decide +kernel
theorem dX5_fit_26 : decode cX5_fit 26 = .ok (.invokestatic 36, 3) := by decide +kernel
theorem dX5_fit_29 : decode cX5_fit 29 = .ok (.ifCond .ne 9, 3) := by decide +kernel
theorem dX5_fit_32 : decode cX5_fit 32 = .ok (.aload_n 0, 1) := by decide +kernel
theorem dX5_fit_33 : decode cX5_fit 33 = .ok (.iconst 2, 1) := by decide +kernel
theorem dX5_fit_34 : decode cX5_fit 34 = .ok (.invokevirtual 40, 3) := by decide +kernel
theorem dX5_fit_37 : decode cX5_fit 37 = .ok (.ireturn, 1) := by decide +kernel
theorem dX5_fit_38 : decode cX5_fit 38 = .ok (.aload_n 0, 1) := by decide +kernel
theorem dX5_fit_39 : decode cX5_fit 39 = .ok (.getfield 19, 3) := by decide +kernel
theorem dX5_fit_42 : decode cX5_fit 42 = .ok (.iload_n 1, 1) := by decide +kernel
theorem dX5_fit_43 : decode cX5_fit 43 = .ok (.iaload, 1) := by decide +kernel
theorem dX5_fit_44 : decode cX5_fit 44 = .ok (.istore_n 3, 1) := by decide +kernel
theorem dX5_fit_45 : decode cX5_fit 45 = .ok (.aload_n 0, 1) := by decide +kernel
theorem dX5_fit_46 : decode cX5_fit 46 = .ok (.getfield 19, 3) := by decide +kernel
theorem dX5_fit_49 : decode cX5_fit 49 = .ok (.iload_n 1, 1) := by decide +kernel
theorem dX5_fit_50 : decode cX5_fit 50 = .ok (.iconst 0, 1) := by decide +kernel
theorem dX5_fit_51 : decode cX5_fit 51 = .ok (.iastore, 1) := by decide +kernel
theorem dX5_fit_52 : decode cX5_fit 52 = .ok (.aload_n 0, 1) := by decide +kernel
theorem dX5_fit_53 : decode cX5_fit 53 = .ok (.getfield 16, 3) := by decide +kernel
theorem dX5_fit_56 : decode cX5_fit 56 = .ok (.iload_n 1, 1) := by decide +kernel
theorem dX5_fit_57 : decode cX5_fit 57 = .ok (.iload_n 2, 1) := by decide +kernel
theorem dX5_fit_58 : decode cX5_fit 58 = .ok (.iastore, 1) := by decide +kernel
theorem dX5_fit_59 : decode cX5_fit 59 = .ok (.iload_n 3, 1) := by decide +kernel
theorem dX5_fit_60 : decode cX5_fit 60 = .ok (.ireturn, 1) := by decide +kernel
set_option maxRecDepth 20000 in
theorem ggX5_turn_X5_isPlace : GoodIn wsX5_turn wsX5_isPlace := goodIn_r _ [6, 7, 8, 5, 9] (by decide +kernel) (by decide +kernel)
set_option maxRecDepth 20000 in
theorem gX5_turn_X5_isPlace : GoodIn wsX5_turn (va_wsS RX5 44 yX5_isPlace wsX5_isPlace) := goodIn_app (goodIn_of _ (by decide +kernel)) ggX5_turn_X5_isPlace
theorem dX5_turn_0 : decode cX5_turn 0 = .ok (.aload_n 0, 1) := by decide +kernel
theorem dX5_turn_1 : decode cX5_turn 1 = .ok (.iload_n 1, 1) := by decide +kernel
theorem dX5_turn_2 : decode cX5_turn 2 = .ok (.iload_n 2, 1) := by decide +kernel
theorem dX5_turn_3 : decode cX5_turn 3 = .ok (.invokestatic 44, 3) := by decide +kernel
theorem dX5_turn_6 : decode cX5_turn 6 = .ok (.ifCond .eq 7, 3) := by decide +kernel
theorem dX5_turn_9 : decode cX5_turn 9 = .ok (.iconst 0, 1) := by decide +kernel
theorem dX5_turn_10 : decode cX5_turn 10 = .ok (.goto 4, 3) := by decide +kernel
theorem dX5_turn_13 : decode cX5_turn 13 = .ok (.iconst 1, 1) := by decide +kernel
theorem dX5_turn_14 : decode cX5_turn 14 = .ok (.putfield 29, 3) := by decide +kernel
theorem dX5_turn_17 : decode cX5_turn 17 = .ok (.aload_n 0, 1) := by decide +kernel
theorem dX5_turn_18 : decode cX5_turn 18 = .ok (.getfield 29, 3) := by decide +kernel
theorem dX5_turn_21 : decode cX5_turn 21 = .ok (.ifCond .eq 5, 3) := by decide +kernel
theorem dX5_turn_24 : decode cX5_turn 24 = .ok (.iconst 0, 1) := by decide +kernel
theorem dX5_turn_25 : decode cX5_turn 25 = .ok (.ireturn, 1) := by decide +kernel
theorem dX5_turn_26 : decode cX5_turn 26 = .ok (.aload_n 0, 1) := by decide +kernel
theorem dX5_turn_27 : decode cX5_turn 27 = .ok (.getfield 22, 3) := by decide +kernel
theorem dX5_turn_30 : decode cX5_turn 30 = .ok (.bipush 6, 2) := by decide +kernel
theorem dX5_turn_32 : decode cX5_turn 32 = .ok (.iload_n 1, 1) := by decide +kernel
theorem dX5_turn_33 : decode cX5_turn 33 = .ok (.imul, 1) := by decide +kernel
theorem dX5_turn_34 : decode cX5_turn 34 = .ok (.iload_n 2, 1) := by decide +kernel
theorem dX5_turn_35 : decode cX5_turn 35 = .ok (.iadd, 1) := by decide +kernel
theorem dX5_turn_36 : decode cX5_turn 36 = .ok (.aload_n 0, 1) := by decide +kernel
theorem dX5_turn_37 : decode cX5_turn 37 = .ok (.getfield 22, 3) := by decide +kernel
theorem dX5_turn_40 : decode cX5_turn 40 = .ok (.bipush 6, 2) := by decide +kernel
theorem dX5_turn_42 : decode cX5_turn 42 = .ok (.iload_n 1, 1) := by decide +kernel
theorem dX5_turn_43 : decode cX5_turn 43 = .ok (.imul, 1) := by decide +kernel
theorem dX5_turn_44 : decode cX5_turn 44 = .ok (.iload_n 2, 1) := by decide +kernel
theorem dX5_turn_45 : decode cX5_turn 45 = .ok (.iadd, 1) := by decide +kernel
theorem dX5_turn_46 : decode cX5_turn 46 = .ok (.baload, 1) := by decide +kernel
theorem dX5_turn_47 : decode cX5_turn 47 = .ok (.ifCond .ne 7, 3) := by decide +kernel
theorem dX5_turn_50 : decode cX5_turn 50 = .ok (.iconst 1, 1) := by decide +kernel
theorem dX5_turn_51 : decode cX5_turn 51 = .ok (.goto 4, 3) := by decide +kernel
theorem dX5_turn_54 : decode cX5_turn 54 = .ok (.iconst 0, 1) := by decide +kernel
theorem dX5_turn_55 : decode cX5_turn 55 = .ok (.bastore, 1) := by decide +kernel
theorem dX5_turn_56 : decode cX5_turn 56 = .ok (.aload_n 0, 1) := by decide +kernel
theorem dX5_turn_57 : decode cX5_turn 57 = .ok (.getfield 22, 3) := by decide +kernel
theorem dX5_turn_60 : decode cX5_turn 60 = .ok (.bipush 6, 2) := by decide +kernel
theorem dX5_turn_62 : decode cX5_turn 62 = .ok (.iload_n 1, 1) := by decide +kernel
theorem dX5_turn_63 : decode cX5_turn 63 = .ok (.imul, 1) := by decide +kernel
theorem dX5_turn_64 : decode cX5_turn 64 = .ok (.iload_n 2, 1) := by decide +kernel
theorem dX5_turn_65 : decode cX5_turn 65 = .ok (.iadd, 1) := by decide +kernel
theorem dX5_turn_66 : decode cX5_turn 66 = .ok (.baload, 1) := by decide +kernel
theorem dX5_turn_67 : decode cX5_turn 67 = .ok (.ireturn, 1) := by decide +kernel
set_option maxRecDepth 20000 in
theorem ggX5_runRow_X5_isIn : GoodIn wsX5_runRow wsX5_isIn := goodIn_r _ [8] (by decide +kernel) (by decide +kernel)
set_option maxRecDepth 20000 in
theorem gX5_runRow_X5_isIn : GoodIn wsX5_runRow (va_wsS RX5 36 yX5_isIn wsX5_isIn) := goodIn_app (goodIn_of _ (by decide +kernel)) ggX5_runRow_X5_isIn
set_option maxRecDepth 20000 in
theorem ggX5_runRow_X5_isWhole : GoodIn wsX5_runRow wsX5_isWhole := goodIn_r _ [12, 4, 13, 14, 15, 16, 17, 18, 19, 20, 21] (by decide +kernel) (by decide +kernel)
set_option maxRecDepth 20000 in
theorem gX5_runRow_X5_isWhole : GoodIn wsX5_runRow (wsV RX5 48 RX5 yX5_isWhole wsX5_isWhole) := goodIn_app (goodIn_of _ (by decide +kernel)) ggX5_runRow_X5_isWhole
theorem dX5_runRow_0 : decode cX5_runRow 0 = .ok (.aload_n 0, 1) := by decide +kernel
theorem dX5_runRow_1 : decode cX5_runRow 1 = .ok (.getfield 13, 3) := by decide +kernel
theorem dX5_runRow_4 : decode cX5_runRow 4 = .ok (.iconst 2, 1) := by decide +kernel
theorem dX5_runRow_5 : decode cX5_runRow 5 = .ok (.dup2, 1) := by decide +kernel
theorem dX5_runRow_6 : decode cX5_runRow 6 = .ok (.iaload, 1) := by decide +kernel
theorem dX5_runRow_7 : decode cX5_runRow 7 = .ok (.aload_n 0, 1) := by decide +kernel
theorem dX5_runRow_8 : decode cX5_runRow 8 = .ok (.getfield 13, 3) := by decide +kernel
theorem dX5_runRow_11 : decode cX5_runRow 11 = .ok (.iconst 0, 1) := by decide +kernel
theorem dX5_runRow_12 : decode cX5_runRow 12 = .ok (.iaload, 1) := by decide +kernel
theorem dX5_runRow_13 : decode cX5_runRow 13 = .ok (.bipush 20, 2) := by decide +kernel
theorem dX5_runRow_15 : decode cX5_runRow 15 = .ok (.isub, 1) := by decide +kernel
theorem dX5_runRow_16 : decode cX5_runRow 16 = .ok (.iadd, 1) := by decide +kernel
theorem dX5_runRow_17 : decode cX5_runRow 17 = .ok (.iastore, 1) := by decide +kernel
theorem dX5_runRow_18 : decode cX5_runRow 18 = .ok (.aload_n 0, 1) := by decide +kernel
theorem dX5_runRow_19 : decode cX5_runRow 19 = .ok (.getfield 13, 3) := by decide +kernel
theorem dX5_runRow_22 : decode cX5_runRow 22 = .ok (.iconst 2, 1) := by decide +kernel
theorem dX5_runRow_23 : decode cX5_runRow 23 = .ok (.iaload, 1) := by decide +kernel
theorem dX5_runRow_24 : decode cX5_runRow 24 = .ok (.bipush (-6), 2) := by decide +kernel
theorem dX5_runRow_26 : decode cX5_runRow 26 = .ok (.bipush 6, 2) := by decide +kernel
theorem dX5_runRow_28 : decode cX5_runRow 28 = .ok (.invokestatic 36, 3) := by decide +kernel
theorem dX5_runRow_31 : decode cX5_runRow 31 = .ok (.ifCond .ne 7, 3) := by decide +kernel
theorem dX5_runRow_34 : decode cX5_runRow 34 = .ok (.iconst 1, 1) := by decide +kernel
theorem dX5_runRow_35 : decode cX5_runRow 35 = .ok (.goto 4, 3) := by decide +kernel
theorem dX5_runRow_38 : decode cX5_runRow 38 = .ok (.iconst 0, 1) := by decide +kernel
theorem dX5_runRow_39 : decode cX5_runRow 39 = .ok (.istore_n 2, 1) := by decide +kernel
theorem dX5_runRow_40 : decode cX5_runRow 40 = .ok (.iconst 0, 1) := by decide +kernel
theorem dX5_runRow_41 : decode cX5_runRow 41 = .ok (.istore_n 3, 1) := by decide +kernel
theorem dX5_runRow_42 : decode cX5_runRow 42 = .ok (.iload_n 3, 1) := by decide +kernel
theorem dX5_runRow_43 : decode cX5_runRow 43 = .ok (.bipush 6, 2) := by decide +kernel
theorem dX5_runRow_45 : decode cX5_runRow 45 = .ok (.if_icmp .ge 105, 3) := by decide +kernel
theorem dX5_runRow_48 : decode cX5_runRow 48 = .ok (.aload_n 0, 1) := by decide +kernel
theorem dX5_runRow_49 : decode cX5_runRow 49 = .ok (.getfield 26, 3) := by decide +kernel
theorem dX5_runRow_52 : decode cX5_runRow 52 = .ok (.bipush 6, 2) := by decide +kernel
theorem dX5_runRow_54 : decode cX5_runRow 54 = .ok (.iload_n 1, 1) := by decide +kernel
theorem dX5_runRow_55 : decode cX5_runRow 55 = .ok (.imul, 1) := by decide +kernel
theorem dX5_runRow_56 : decode cX5_runRow 56 = .ok (.iload_n 3, 1) := by decide +kernel
theorem dX5_runRow_57 : decode cX5_runRow 57 = .ok (.iadd, 1) := by decide +kernel
theorem dX5_runRow_58 : decode cX5_runRow 58 = .ok (.iload_n 2, 1) := by decide +kernel
theorem dX5_runRow_59 : decode cX5_runRow 59 = .ok (.ifCond .eq 7, 3) := by decide +kernel
theorem dX5_runRow_62 : decode cX5_runRow 62 = .ok (.iconst 1, 1) := by decide +kernel
theorem dX5_runRow_63 : decode cX5_runRow 63 = .ok (.goto 4, 3) := by decide +kernel
theorem dX5_runRow_66 : decode cX5_runRow 66 = .ok (.iconst 0, 1) := by decide +kernel
theorem dX5_runRow_67 : decode cX5_runRow 67 = .ok (.aload_n 0, 1) := by decide +kernel
theorem dX5_runRow_68 : decode cX5_runRow 68 = .ok (.iload_n 3, 1) := by decide +kernel
theorem dX5_runRow_69 : decode cX5_runRow 69 = .ok (.invokevirtual 48, 3) := by decide +kernel
theorem dX5_runRow_72 : decode cX5_runRow 72 = .ok (.ifCond .eq 7, 3) := by decide +kernel
theorem dX5_runRow_75 : decode cX5_runRow 75 = .ok (.iconst 0, 1) := by decide +kernel
theorem dX5_runRow_76 : decode cX5_runRow 76 = .ok (.goto 4, 3) := by decide +kernel
theorem dX5_runRow_79 : decode cX5_runRow 79 = .ok (.iconst 2, 1) := by decide +kernel
theorem dX5_runRow_80 : decode cX5_runRow 80 = .ok (.ior, 1) := by decide +kernel
theorem dX5_runRow_81 : decode cX5_runRow 81 = .ok (.aload_n 0, 1) := by decide +kernel
theorem dX5_runRow_82 : decode cX5_runRow 82 = .ok (.iload_n 3, 1) := by decide +kernel
theorem dX5_runRow_83 : decode cX5_runRow 83 = .ok (.iconst 1, 1) := by decide +kernel
theorem dX5_runRow_84 : decode cX5_runRow 84 = .ok (.iadd, 1) := by decide +kernel
theorem dX5_runRow_85 : decode cX5_runRow 85 = .ok (.invokevirtual 48, 3) := by decide +kernel
theorem dX5_runRow_88 : decode cX5_runRow 88 = .ok (.ifCond .eq 7, 3) := by decide +kernel
theorem dX5_runRow_91 : decode cX5_runRow 91 = .ok (.iconst 0, 1) := by decide +kernel
theorem dX5_runRow_92 : decode cX5_runRow 92 = .ok (.goto 4, 3) := by decide +kernel
theorem dX5_runRow_95 : decode cX5_runRow 95 = .ok (.iconst 4, 1) := by decide +kernel
theorem dX5_runRow_96 : decode cX5_runRow 96 = .ok (.ior, 1) := by decide +kernel
theorem dX5_runRow_97 : decode cX5_runRow 97 = .ok (.aload_n 0, 1) := by decide +kernel
theorem dX5_runRow_98 : decode cX5_runRow 98 = .ok (.getfield 22, 3) := by decide +kernel
theorem dX5_runRow_101 : decode cX5_runRow 101 = .ok (.bipush 6, 2) := by decide +kernel
theorem dX5_runRow_103 : decode cX5_runRow 103 = .ok (.iload_n 1, 1) := by decide +kernel
theorem dX5_runRow_104 : decode cX5_runRow 104 = .ok (.imul, 1) := by decide +kernel
theorem dX5_runRow_105 : decode cX5_runRow 105 = .ok (.iload_n 3, 1) := by decide +kernel
theorem dX5_runRow_106 : decode cX5_runRow 106 = .ok (.iadd, 1) := by decide +kernel
theorem dX5_runRow_107 : decode cX5_runRow 107 = .ok (.baload, 1) := by decide +kernel
theorem dX5_runRow_108 : decode cX5_runRow 108 = .ok (.ifCond .eq 8, 3) := by decide +kernel
theorem dX5_runRow_111 : decode cX5_runRow 111 = .ok (.bipush 8, 2) := by decide +kernel
theorem dX5_runRow_113 : decode cX5_runRow 113 = .ok (.goto 4, 3) := by decide +kernel
theorem dX5_runRow_116 : decode cX5_runRow 116 = .ok (.iconst 0, 1) := by decide +kernel
theorem dX5_runRow_117 : decode cX5_runRow 117 = .ok (.ior, 1) := by decide +kernel
theorem dX5_runRow_118 : decode cX5_runRow 118 = .ok (.aload_n 0, 1) := by decide +kernel
theorem dX5_runRow_119 : decode cX5_runRow 119 = .ok (.getfield 13, 3) := by decide +kernel
theorem dX5_runRow_122 : decode cX5_runRow 122 = .ok (.iconst 5, 1) := by decide +kernel
theorem dX5_runRow_123 : decode cX5_runRow 123 = .ok (.iaload, 1) := by decide +kernel
theorem dX5_runRow_124 : decode cX5_runRow 124 = .ok (.iload_n 3, 1) := by decide +kernel
theorem dX5_runRow_125 : decode cX5_runRow 125 = .ok (.iadd, 1) := by decide +kernel
theorem dX5_runRow_126 : decode cX5_runRow 126 = .ok (.aload_n 0, 1) := by decide +kernel
theorem dX5_runRow_127 : decode cX5_runRow 127 = .ok (.getfield 13, 3) := by decide +kernel
theorem dX5_runRow_130 : decode cX5_runRow 130 = .ok (.iconst 4, 1) := by decide +kernel
theorem dX5_runRow_131 : decode cX5_runRow 131 = .ok (.iaload, 1) := by decide +kernel
theorem dX5_runRow_132 : decode cX5_runRow 132 = .ok (.irem, 1) := by decide +kernel
theorem dX5_runRow_133 : decode cX5_runRow 133 = .ok (.ifCond .ne 7, 3) := by decide +kernel
theorem dX5_runRow_136 : decode cX5_runRow 136 = .ok (.iconst 0, 1) := by decide +kernel
theorem dX5_runRow_137 : decode cX5_runRow 137 = .ok (.goto 5, 3) := by decide +kernel
theorem dX5_runRow_140 : decode cX5_runRow 140 = .ok (.bipush 16, 2) := by decide +kernel
theorem dX5_runRow_142 : decode cX5_runRow 142 = .ok (.ior, 1) := by decide +kernel
theorem dX5_runRow_143 : decode cX5_runRow 143 = .ok (.iastore, 1) := by decide +kernel
theorem dX5_runRow_144 : decode cX5_runRow 144 = .ok (.iinc 3 1, 3) := by decide +kernel
theorem dX5_runRow_147 : decode cX5_runRow 147 = .ok (.goto (-105), 3) := by decide +kernel
theorem dX5_runRow_150 : decode cX5_runRow 150 = .ok (.iconst 0, 1) := by decide +kernel
theorem dX5_runRow_151 : decode cX5_runRow 151 = .ok (.istore_n 3, 1) := by decide +kernel
theorem dX5_runRow_152 : decode cX5_runRow 152 = .ok (.iload_n 3, 1) := by decide +kernel
theorem dX5_runRow_153 : decode cX5_runRow 153 = .ok (.bipush 7, 2) := by decide +kernel
theorem dX5_runRow_155 : decode cX5_runRow 155 = .ok (.if_icmp .ge 31, 3) := by decide +kernel
theorem dX5_runRow_158 : decode cX5_runRow 158 = .ok (.aload_n 0, 1) := by decide +kernel
theorem dX5_runRow_159 : decode cX5_runRow 159 = .ok (.getfield 19, 3) := by decide +kernel
theorem dX5_runRow_162 : decode cX5_runRow 162 = .ok (.iload_n 3, 1) := by decide +kernel
theorem dX5_runRow_163 : decode cX5_runRow 163 = .ok (.dup2, 1) := by decide +kernel
theorem dX5_runRow_164 : decode cX5_runRow 164 = .ok (.iaload, 1) := by decide +kernel
theorem dX5_runRow_165 : decode cX5_runRow 165 = .ok (.aload_n 0, 1) := by decide +kernel
theorem dX5_runRow_166 : decode cX5_runRow 166 = .ok (.iload_n 3, 1) := by decide +kernel
theorem dX5_runRow_167 : decode cX5_runRow 167 = .ok (.invokevirtual 48, 3) := by decide +kernel
theorem dX5_runRow_170 : decode cX5_runRow 170 = .ok (.ifCond .eq 7, 3) := by decide +kernel
theorem dX5_runRow_173 : decode cX5_runRow 173 = .ok (.iconst 1, 1) := by decide +kernel
theorem dX5_runRow_174 : decode cX5_runRow 174 = .ok (.goto 4, 3) := by decide +kernel
theorem dX5_runRow_177 : decode cX5_runRow 177 = .ok (.iconst 0, 1) := by decide +kernel
theorem dX5_runRow_178 : decode cX5_runRow 178 = .ok (.iadd, 1) := by decide +kernel
theorem dX5_runRow_179 : decode cX5_runRow 179 = .ok (.iastore, 1) := by decide +kernel
theorem dX5_runRow_180 : decode cX5_runRow 180 = .ok (.iinc 3 1, 3) := by decide +kernel
theorem dX5_runRow_183 : decode cX5_runRow 183 = .ok (.goto (-31), 3) := by decide +kernel
theorem dX5_runRow_186 : decode cX5_runRow 186 = .ok (.aload_n 0, 1) := by decide +kernel
theorem dX5_runRow_187 : decode cX5_runRow 187 = .ok (.getfield 13, 3) := by decide +kernel
theorem dX5_runRow_190 : decode cX5_runRow 190 = .ok (.iconst 3, 1) := by decide +kernel
theorem dX5_runRow_191 : decode cX5_runRow 191 = .ok (.dup2, 1) := by decide +kernel
theorem dX5_runRow_192 : decode cX5_runRow 192 = .ok (.iaload, 1) := by decide +kernel
theorem dX5_runRow_193 : decode cX5_runRow 193 = .ok (.iconst 1, 1) := by decide +kernel
theorem dX5_runRow_194 : decode cX5_runRow 194 = .ok (.isub, 1) := by decide +kernel
theorem dX5_runRow_195 : decode cX5_runRow 195 = .ok (.iastore, 1) := by decide +kernel
theorem dX5_runRow_196 : decode cX5_runRow 196 = .ok (.aload_n 0, 1) := by decide +kernel
theorem dX5_runRow_197 : decode cX5_runRow 197 = .ok (.getfield 13, 3) := by decide +kernel
theorem dX5_runRow_200 : decode cX5_runRow 200 = .ok (.iconst 5, 1) := by decide +kernel
theorem dX5_runRow_201 : decode cX5_runRow 201 = .ok (.dup2, 1) := by decide +kernel
theorem dX5_runRow_202 : decode cX5_runRow 202 = .ok (.iaload, 1) := by decide +kernel
theorem dX5_runRow_203 : decode cX5_runRow 203 = .ok (.iconst 1, 1) := by decide +kernel
theorem dX5_runRow_204 : decode cX5_runRow 204 = .ok (.iadd, 1) := by decide +kernel
theorem dX5_runRow_205 : decode cX5_runRow 205 = .ok (.iastore, 1) := by decide +kernel
theorem dX5_runRow_206 : decode cX5_runRow 206 = .ok (.return_, 1) := by decide +kernel
set_option maxRecDepth 20000 in
theorem ggX5_runSheet_X5_runRow : GoodIn wsX5_runSheet wsX5_runRow := goodIn_r _ [13, 1, 14, 15, 16, 17, 18, 12, 19, 20, 21, 22, 23, 24, 25, 26, 27, 28, 29, 30, 31, 32] (by decide +kernel) (by decide +kernel)
set_option maxRecDepth 20000 in
theorem gX5_runSheet_X5_runRow : GoodIn wsX5_runSheet (wsV RX5 52 RX5 yX5_runRow wsX5_runRow) := goodIn_app (goodIn_of _ (by decide +kernel)) ggX5_runSheet_X5_runRow
theorem dX5_runSheet_0 : decode cX5_runSheet 0 = .ok (.iconst 0, 1) := by decide +kernel
theorem dX5_runSheet_1 : decode cX5_runSheet 1 = .ok (.istore_n 1, 1) := by decide +kernel
theorem dX5_runSheet_2 : decode cX5_runSheet 2 = .ok (.iload_n 1, 1) := by decide +kernel
theorem dX5_runSheet_3 : decode cX5_runSheet 3 = .ok (.iconst 5, 1) := by decide +kernel
theorem dX5_runSheet_4 : decode cX5_runSheet 4 = .ok (.if_icmp .ge 14, 3) := by decide +kernel
theorem dX5_runSheet_7 : decode cX5_runSheet 7 = .ok (.aload_n 0, 1) := by decide +kernel
theorem dX5_runSheet_8 : decode cX5_runSheet 8 = .ok (.iload_n 1, 1) := by decide +kernel
theorem dX5_runSheet_9 : decode cX5_runSheet 9 = .ok (.invokevirtual 52, 3) := by decide +kernel
theorem dX5_runSheet_12 : decode cX5_runSheet 12 = .ok (.iinc 1 1, 3) := by decide +kernel
theorem dX5_runSheet_15 : decode cX5_runSheet 15 = .ok (.goto (-13), 3) := by decide +kernel
theorem dX5_runSheet_18 : decode cX5_runSheet 18 = .ok (.aload_n 0, 1) := by decide +kernel
theorem dX5_runSheet_19 : decode cX5_runSheet 19 = .ok (.getfield 13, 3) := by decide +kernel
theorem dX5_runSheet_22 : decode cX5_runSheet 22 = .ok (.iconst 0, 1) := by decide +kernel
theorem dX5_runSheet_23 : decode cX5_runSheet 23 = .ok (.bipush 10, 2) := by decide +kernel
theorem dX5_runSheet_25 : decode cX5_runSheet 25 = .ok (.bipush 30, 2) := by decide +kernel
theorem dX5_runSheet_27 : decode cX5_runSheet 27 = .ok (.aload_n 0, 1) := by decide +kernel
theorem dX5_runSheet_28 : decode cX5_runSheet 28 = .ok (.getfield 13, 3) := by decide +kernel
theorem dX5_runSheet_31 : decode cX5_runSheet 31 = .ok (.iconst 0, 1) := by decide +kernel
theorem dX5_runSheet_32 : decode cX5_runSheet 32 = .ok (.iaload, 1) := by decide +kernel
theorem dX5_runSheet_33 : decode cX5_runSheet 33 = .ok (.aload_n 0, 1) := by decide +kernel
theorem dX5_runSheet_34 : decode cX5_runSheet 34 = .ok (.getfield 13, 3) := by decide +kernel
theorem dX5_runSheet_37 : decode cX5_runSheet 37 = .ok (.iconst 1, 1) := by decide +kernel
theorem dX5_runSheet_38 : decode cX5_runSheet 38 = .ok (.iaload, 1) := by decide +kernel
theorem dX5_runSheet_39 : decode cX5_runSheet 39 = .ok (.iadd, 1) := by decide +kernel
theorem dX5_runSheet_40 : decode cX5_runSheet 40 = .ok (.invokestatic 56, 3) := by decide +kernel
theorem dX5_runSheet_43 : decode cX5_runSheet 43 = .ok (.invokestatic 62, 3) := by decide +kernel
theorem dX5_runSheet_46 : decode cX5_runSheet 46 = .ok (.iastore, 1) := by decide +kernel
theorem dX5_runSheet_47 : decode cX5_runSheet 47 = .ok (.return_, 1) := by decide +kernel
set_option maxRecDepth 20000 in
theorem ggX5_run_X5_fail : GoodIn wsX5_run wsX5_fail := goodIn_r _ [14, 1, 40, 41, 42, 43, 44, 45, 46, 47] (by decide +kernel) (by decide +kernel)
set_option maxRecDepth 20000 in
theorem gX5_run_X5_fail : GoodIn wsX5_run (wsV RX5 40 RX5 yX5_fail wsX5_fail) := goodIn_app (goodIn_of _ (by decide +kernel)) ggX5_run_X5_fail
set_option maxRecDepth 20000 in
theorem ggX5_run_X5_runSheet : GoodIn wsX5_run wsX5_runSheet := goodIn_r _ [18, 3, 19, 20, 21, 22, 23, 24, 25, 26, 27, 28, 13, 29, 4, 30, 31, 32, 33, 34, 35, 36, 37, 38, 39, 40, 41, 42, 43, 44, 45, 46, 47] (by decide +kernel) (by decide +kernel)
set_option maxRecDepth 20000 in
theorem gX5_run_X5_runSheet : GoodIn wsX5_run (wsV RX5 65 RX5 yX5_runSheet wsX5_runSheet) := goodIn_app (goodIn_of _ (by decide +kernel)) ggX5_run_X5_runSheet
theorem dX5_run_0 : decode cX5_run 0 = .ok (.aload_n 0, 1) := by decide +kernel
theorem dX5_run_1 : decode cX5_run 1 = .ok (.iconst 0, 1) := by decide +kernel
theorem dX5_run_2 : decode cX5_run 2 = .ok (.putfield 29, 3) := by decide +kernel
theorem dX5_run_5 : decode cX5_run 5 = .ok (.aload_n 0, 1) := by decide +kernel
theorem dX5_run_6 : decode cX5_run 6 = .ok (.getfield 33, 3) := by decide +kernel
theorem dX5_run_9 : decode cX5_run 9 = .ok (.bipush 20, 2) := by decide +kernel
theorem dX5_run_11 : decode cX5_run 11 = .ok (.if_icmp .eq 13, 3) := by decide +kernel
theorem dX5_run_14 : decode cX5_run 14 = .ok (.aload_n 0, 1) := by decide +kernel
theorem dX5_run_15 : decode cX5_run 15 = .ok (.getfield 13, 3) := by decide +kernel
theorem dX5_run_18 : decode cX5_run 18 = .ok (.iconst 3, 1) := by decide +kernel
theorem dX5_run_19 : decode cX5_run 19 = .ok (.iaload, 1) := by decide +kernel
theorem dX5_run_20 : decode cX5_run 20 = .ok (.iconst 5, 1) := by decide +kernel
theorem dX5_run_21 : decode cX5_run 21 = .ok (.if_icmp .ge 9, 3) := by decide +kernel
theorem dX5_run_24 : decode cX5_run 24 = .ok (.aload_n 0, 1) := by decide +kernel
theorem dX5_run_25 : decode cX5_run 25 = .ok (.iconst 1, 1) := by decide +kernel
theorem dX5_run_26 : decode cX5_run 26 = .ok (.invokevirtual 40, 3) := by decide +kernel
theorem dX5_run_29 : decode cX5_run 29 = .ok (.ireturn, 1) := by decide +kernel
theorem dX5_run_30 : decode cX5_run 30 = .ok (.aload_n 0, 1) := by decide +kernel
theorem dX5_run_31 : decode cX5_run 31 = .ok (.invokevirtual 65, 3) := by decide +kernel
theorem dX5_run_34 : decode cX5_run 34 = .ok (.aload_n 0, 1) := by decide +kernel
theorem dX5_run_35 : decode cX5_run 35 = .ok (.getfield 26, 3) := by decide +kernel
theorem dX5_run_38 : decode cX5_run 38 = .ok (.iconst 0, 1) := by decide +kernel
theorem dX5_run_39 : decode cX5_run 39 = .ok (.aload_n 0, 1) := by decide +kernel
theorem dX5_run_40 : decode cX5_run 40 = .ok (.getfield 9, 3) := by decide +kernel
theorem dX5_run_43 : decode cX5_run 43 = .ok (.bipush 30, 2) := by decide +kernel
theorem dX5_run_45 : decode cX5_run 45 = .ok (.aload_n 0, 1) := by decide +kernel
theorem dX5_run_46 : decode cX5_run 46 = .ok (.getfield 33, 3) := by decide +kernel
theorem dX5_run_49 : decode cX5_run 49 = .ok (.imul, 1) := by decide +kernel
theorem dX5_run_50 : decode cX5_run 50 = .ok (.bipush 30, 2) := by decide +kernel
theorem dX5_run_52 : decode cX5_run 52 = .ok (.invokestatic 68, 3) := by decide +kernel
theorem dX5_run_55 : decode cX5_run 55 = .ok (.aload_n 0, 1) := by decide +kernel
theorem dX5_run_56 : decode cX5_run 56 = .ok (.dup, 1) := by decide +kernel
theorem dX5_run_57 : decode cX5_run 57 = .ok (.getfield 33, 3) := by decide +kernel
theorem dX5_run_60 : decode cX5_run 60 = .ok (.iconst 1, 1) := by decide +kernel
theorem dX5_run_61 : decode cX5_run 61 = .ok (.iadd, 1) := by decide +kernel
theorem dX5_run_62 : decode cX5_run 62 = .ok (.putfield 33, 3) := by decide +kernel
theorem dX5_run_65 : decode cX5_run 65 = .ok (.aload_n 0, 1) := by decide +kernel
theorem dX5_run_66 : decode cX5_run 66 = .ok (.getfield 33, 3) := by decide +kernel
theorem dX5_run_69 : decode cX5_run 69 = .ok (.iconst 1, 1) := by decide +kernel
theorem dX5_run_70 : decode cX5_run 70 = .ok (.isub, 1) := by decide +kernel
theorem dX5_run_71 : decode cX5_run 71 = .ok (.ireturn, 1) := by decide +kernel
set_option maxRecDepth 20000 in
theorem ggX5_faults_X5_isSheet : GoodIn wsX5_faults wsX5_isSheet := goodIn_r _ [7, 8, 9, 10, 6, 11, 19, 20, 21, 22, 23, 24, 25, 26] (by decide +kernel) (by decide +kernel)
set_option maxRecDepth 20000 in
theorem gX5_faults_X5_isSheet : GoodIn wsX5_faults (wsV RX5 74 RX5 yX5_isSheet wsX5_isSheet) := goodIn_app (goodIn_of _ (by decide +kernel)) ggX5_faults_X5_isSheet
set_option maxRecDepth 20000 in
theorem ggX5_faults_X5_isPlace : GoodIn wsX5_faults wsX5_isPlace := goodIn_r _ [14, 9, 10, 6, 11] (by decide +kernel) (by decide +kernel)
set_option maxRecDepth 20000 in
theorem gX5_faults_X5_isPlace : GoodIn wsX5_faults (va_wsS RX5 44 yX5_isPlace wsX5_isPlace) := goodIn_app (goodIn_of _ (by decide +kernel)) ggX5_faults_X5_isPlace
set_option maxRecDepth 20000 in
theorem ggX5_faults_X5_fail : GoodIn wsX5_faults wsX5_fail := goodIn_r _ [18, 1, 19, 20, 21, 22, 23, 24, 25, 26] (by decide +kernel) (by decide +kernel)
set_option maxRecDepth 20000 in
theorem gX5_faults_X5_fail : GoodIn wsX5_faults (wsV RX5 40 RX5 yX5_fail wsX5_fail) := goodIn_app (goodIn_of _ (by decide +kernel)) ggX5_faults_X5_fail
theorem dX5_faults_0 : decode cX5_faults 0 = .ok (.aload_n 0, 1) := by decide +kernel
theorem dX5_faults_1 : decode cX5_faults 1 = .ok (.iconst 0, 1) := by decide +kernel
theorem dX5_faults_2 : decode cX5_faults 2 = .ok (.putfield 29, 3) := by decide +kernel
theorem dX5_faults_5 : decode cX5_faults 5 = .ok (.aload_n 0, 1) := by decide +kernel
theorem dX5_faults_6 : decode cX5_faults 6 = .ok (.iload_n 1, 1) := by decide +kernel
theorem dX5_faults_7 : decode cX5_faults 7 = .ok (.invokevirtual 74, 3) := by decide +kernel
theorem dX5_faults_10 : decode cX5_faults 10 = .ok (.ifCond .eq 33, 3) := by decide +kernel
theorem dX5_faults_13 : decode cX5_faults 13 = .ok (.iload_n 2, 1) := by decide +kernel
theorem dX5_faults_14 : decode cX5_faults 14 = .ok (.iload_n 3, 1) := by decide +kernel
theorem dX5_faults_15 : decode cX5_faults 15 = .ok (.invokestatic 44, 3) := by decide +kernel
theorem dX5_faults_18 : decode cX5_faults 18 = .ok (.ifCond .eq 25, 3) := by decide +kernel
theorem dX5_faults_21 : decode cX5_faults 21 = .ok (.aload_n 0, 1) := by decide +kernel
theorem dX5_faults_22 : decode cX5_faults 22 = .ok (.getfield 9, 3) := by decide +kernel
theorem dX5_faults_25 : decode cX5_faults 25 = .ok (.bipush 30, 2) := by decide +kernel
theorem dX5_faults_27 : decode cX5_faults 27 = .ok (.iload_n 1, 1) := by decide +kernel
theorem dX5_faults_28 : decode cX5_faults 28 = .ok (.imul, 1) := by decide +kernel
theorem dX5_faults_29 : decode cX5_faults 29 = .ok (.bipush 6, 2) := by decide +kernel
theorem dX5_faults_31 : decode cX5_faults 31 = .ok (.iload_n 2, 1) := by decide +kernel
theorem dX5_faults_32 : decode cX5_faults 32 = .ok (.imul, 1) := by decide +kernel
theorem dX5_faults_33 : decode cX5_faults 33 = .ok (.iadd, 1) := by decide +kernel
theorem dX5_faults_34 : decode cX5_faults 34 = .ok (.iload_n 3, 1) := by decide +kernel
theorem dX5_faults_35 : decode cX5_faults 35 = .ok (.iadd, 1) := by decide +kernel
theorem dX5_faults_36 : decode cX5_faults 36 = .ok (.iaload, 1) := by decide +kernel
theorem dX5_faults_37 : decode cX5_faults 37 = .ok (.bipush 32, 2) := by decide +kernel
theorem dX5_faults_39 : decode cX5_faults 39 = .ok (.irem, 1) := by decide +kernel
theorem dX5_faults_40 : decode cX5_faults 40 = .ok (.goto 8, 3) := by decide +kernel
theorem dX5_faults_43 : decode cX5_faults 43 = .ok (.aload_n 0, 1) := by decide +kernel
theorem dX5_faults_44 : decode cX5_faults 44 = .ok (.iconst 1, 1) := by decide +kernel
theorem dX5_faults_45 : decode cX5_faults 45 = .ok (.invokevirtual 40, 3) := by decide +kernel
theorem dX5_faults_48 : decode cX5_faults 48 = .ok (.ireturn, 1) := by decide +kernel
theorem dX5_worth_0 : decode cX5_worth 0 = .ok (.iload_n 0, 1) := by decide +kernel
theorem dX5_worth_1 : decode cX5_worth 1 = .ok (.bipush 32, 2) := by decide +kernel
theorem dX5_worth_3 : decode cX5_worth 3 = .ok (.if_icmp .ge 10, 3) := by decide +kernel
theorem dX5_worth_6 : decode cX5_worth 6 = .ok (.iload_n 0, 1) := by decide +kernel
theorem dX5_worth_7 : decode cX5_worth 7 = .ok (.bipush 7, 2) := by decide +kernel
theorem dX5_worth_9 : decode cX5_worth 9 = .ok (.iand, 1) := by decide +kernel
theorem dX5_worth_10 : decode cX5_worth 10 = .ok (.ifCond .eq 7, 3) := by decide +kernel
theorem dX5_worth_13 : decode cX5_worth 13 = .ok (.iconst 0, 1) := by decide +kernel
theorem dX5_worth_14 : decode cX5_worth 14 = .ok (.goto 31, 3) := by decide +kernel
theorem dX5_worth_17 : decode cX5_worth 17 = .ok (.iconst 1, 1) := by decide +kernel
theorem dX5_worth_18 : decode cX5_worth 18 = .ok (.iload_n 0, 1) := by decide +kernel
theorem dX5_worth_19 : decode cX5_worth 19 = .ok (.bipush 8, 2) := by decide +kernel
theorem dX5_worth_21 : decode cX5_worth 21 = .ok (.iand, 1) := by decide +kernel
theorem dX5_worth_22 : decode cX5_worth 22 = .ok (.ifCond .eq 8, 3) := by decide +kernel
theorem dX5_worth_25 : decode cX5_worth 25 = .ok (.bipush 20, 2) := by decide +kernel
theorem dX5_worth_27 : decode cX5_worth 27 = .ok (.goto 4, 3) := by decide +kernel
theorem dX5_worth_30 : decode cX5_worth 30 = .ok (.iconst 0, 1) := by decide +kernel
theorem dX5_worth_31 : decode cX5_worth 31 = .ok (.iadd, 1) := by decide +kernel
theorem dX5_worth_32 : decode cX5_worth 32 = .ok (.iload_n 0, 1) := by decide +kernel
theorem dX5_worth_33 : decode cX5_worth 33 = .ok (.bipush 16, 2) := by decide +kernel
theorem dX5_worth_35 : decode cX5_worth 35 = .ok (.iand, 1) := by decide +kernel
theorem dX5_worth_36 : decode cX5_worth 36 = .ok (.ifCond .eq 7, 3) := by decide +kernel
theorem dX5_worth_39 : decode cX5_worth 39 = .ok (.iconst 4, 1) := by decide +kernel
theorem dX5_worth_40 : decode cX5_worth 40 = .ok (.goto 4, 3) := by decide +kernel
theorem dX5_worth_43 : decode cX5_worth 43 = .ok (.iconst 0, 1) := by decide +kernel
theorem dX5_worth_44 : decode cX5_worth 44 = .ok (.iadd, 1) := by decide +kernel
theorem dX5_worth_45 : decode cX5_worth 45 = .ok (.ireturn, 1) := by decide +kernel
set_option maxRecDepth 20000 in
theorem ggX5_tear_X5_isSheet : GoodIn wsX5_tear wsX5_isSheet := goodIn_r _ [7, 8, 9, 10, 6, 11, 22, 23, 24, 25, 26, 27, 28, 29] (by decide +kernel) (by decide +kernel)
set_option maxRecDepth 20000 in
theorem gX5_tear_X5_isSheet : GoodIn wsX5_tear (wsV RX5 74 RX5 yX5_isSheet wsX5_isSheet) := goodIn_app (goodIn_of _ (by decide +kernel)) ggX5_tear_X5_isSheet
set_option maxRecDepth 20000 in
theorem ggX5_tear_X5_isPlace : GoodIn wsX5_tear wsX5_isPlace := goodIn_r _ [14, 9, 10, 6, 11] (by decide +kernel) (by decide +kernel)
set_option maxRecDepth 20000 in
theorem gX5_tear_X5_isPlace : GoodIn wsX5_tear (va_wsS RX5 44 yX5_isPlace wsX5_isPlace) := goodIn_app (goodIn_of _ (by decide +kernel)) ggX5_tear_X5_isPlace
set_option maxRecDepth 20000 in
theorem ggX5_tear_X5_fail : GoodIn wsX5_tear wsX5_fail := goodIn_r _ [18, 1, 22, 23, 24, 25, 26, 27, 28, 29] (by decide +kernel) (by decide +kernel)
set_option maxRecDepth 20000 in
theorem gX5_tear_X5_fail : GoodIn wsX5_tear (wsV RX5 40 RX5 yX5_fail wsX5_fail) := goodIn_app (goodIn_of _ (by decide +kernel)) ggX5_tear_X5_fail
set_option maxRecDepth 20000 in
theorem ggX5_tear_X5_worth : GoodIn wsX5_tear wsX5_worth := goodIn_r _ [21] (by decide +kernel) (by decide +kernel)
set_option maxRecDepth 20000 in
theorem gX5_tear_X5_worth : GoodIn wsX5_tear (va_wsS RX5 77 yX5_worth wsX5_worth) := goodIn_app (goodIn_of _ (by decide +kernel)) ggX5_tear_X5_worth
theorem dX5_tear_0 : decode cX5_tear 0 = .ok (.aload_n 0, 1) := by decide +kernel
theorem dX5_tear_1 : decode cX5_tear 1 = .ok (.iconst 0, 1) := by decide +kernel
theorem dX5_tear_2 : decode cX5_tear 2 = .ok (.putfield 29, 3) := by decide +kernel
theorem dX5_tear_5 : decode cX5_tear 5 = .ok (.aload_n 0, 1) := by decide +kernel
theorem dX5_tear_6 : decode cX5_tear 6 = .ok (.iload_n 1, 1) := by decide +kernel
theorem dX5_tear_7 : decode cX5_tear 7 = .ok (.invokevirtual 74, 3) := by decide +kernel
theorem dX5_tear_10 : decode cX5_tear 10 = .ok (.ifCond .eq 11, 3) := by decide +kernel
theorem dX5_tear_13 : decode cX5_tear 13 = .ok (.iload_n 2, 1) := by decide +kernel
theorem dX5_tear_14 : decode cX5_tear 14 = .ok (.iload_n 3, 1) := by decide +kernel
theorem dX5_tear_15 : decode cX5_tear 15 = .ok (.invokestatic 44, 3) := by decide +kernel
theorem dX5_tear_18 : decode cX5_tear 18 = .ok (.ifCond .ne 9, 3) := by decide +kernel
theorem dX5_tear_21 : decode cX5_tear 21 = .ok (.aload_n 0, 1) := by decide +kernel
theorem dX5_tear_22 : decode cX5_tear 22 = .ok (.iconst 1, 1) := by decide +kernel
theorem dX5_tear_23 : decode cX5_tear 23 = .ok (.invokevirtual 40, 3) := by decide +kernel
theorem dX5_tear_26 : decode cX5_tear 26 = .ok (.ireturn, 1) := by decide +kernel
theorem dX5_tear_27 : decode cX5_tear 27 = .ok (.bipush 30, 2) := by decide +kernel
theorem dX5_tear_29 : decode cX5_tear 29 = .ok (.iload_n 1, 1) := by decide +kernel
theorem dX5_tear_30 : decode cX5_tear 30 = .ok (.imul, 1) := by decide +kernel
theorem dX5_tear_31 : decode cX5_tear 31 = .ok (.bipush 6, 2) := by decide +kernel
theorem dX5_tear_33 : decode cX5_tear 33 = .ok (.iload_n 2, 1) := by decide +kernel
theorem dX5_tear_34 : decode cX5_tear 34 = .ok (.imul, 1) := by decide +kernel
theorem dX5_tear_35 : decode cX5_tear 35 = .ok (.iadd, 1) := by decide +kernel
theorem dX5_tear_36 : decode cX5_tear 36 = .ok (.iload_n 3, 1) := by decide +kernel
theorem dX5_tear_37 : decode cX5_tear 37 = .ok (.iadd, 1) := by decide +kernel
theorem dX5_tear_38 : decode cX5_tear 38 = .ok (.istore 4, 2) := by decide +kernel
theorem dX5_tear_40 : decode cX5_tear 40 = .ok (.aload_n 0, 1) := by decide +kernel
theorem dX5_tear_41 : decode cX5_tear 41 = .ok (.getfield 9, 3) := by decide +kernel
theorem dX5_tear_44 : decode cX5_tear 44 = .ok (.iload 4, 2) := by decide +kernel
theorem dX5_tear_46 : decode cX5_tear 46 = .ok (.iaload, 1) := by decide +kernel
theorem dX5_tear_47 : decode cX5_tear 47 = .ok (.bipush 32, 2) := by decide +kernel
theorem dX5_tear_49 : decode cX5_tear 49 = .ok (.if_icmp .lt 9, 3) := by decide +kernel
theorem dX5_tear_52 : decode cX5_tear 52 = .ok (.aload_n 0, 1) := by decide +kernel
theorem dX5_tear_53 : decode cX5_tear 53 = .ok (.iconst 2, 1) := by decide +kernel
theorem dX5_tear_54 : decode cX5_tear 54 = .ok (.invokevirtual 40, 3) := by decide +kernel
theorem dX5_tear_57 : decode cX5_tear 57 = .ok (.ireturn, 1) := by decide +kernel
theorem dX5_tear_58 : decode cX5_tear 58 = .ok (.aload_n 0, 1) := by decide +kernel
theorem dX5_tear_59 : decode cX5_tear 59 = .ok (.getfield 9, 3) := by decide +kernel
theorem dX5_tear_62 : decode cX5_tear 62 = .ok (.iload 4, 2) := by decide +kernel
theorem dX5_tear_64 : decode cX5_tear 64 = .ok (.iaload, 1) := by decide +kernel
theorem dX5_tear_65 : decode cX5_tear 65 = .ok (.invokestatic 77, 3) := by decide +kernel
theorem dX5_tear_68 : decode cX5_tear 68 = .ok (.istore 5, 2) := by decide +kernel
theorem dX5_tear_70 : decode cX5_tear 70 = .ok (.aload_n 0, 1) := by decide +kernel
theorem dX5_tear_71 : decode cX5_tear 71 = .ok (.getfield 9, 3) := by decide +kernel
theorem dX5_tear_74 : decode cX5_tear 74 = .ok (.iload 4, 2) := by decide +kernel
theorem dX5_tear_76 : decode cX5_tear 76 = .ok (.dup2, 1) := by decide +kernel
theorem dX5_tear_77 : decode cX5_tear 77 = .ok (.iaload, 1) := by decide +kernel
theorem dX5_tear_78 : decode cX5_tear 78 = .ok (.bipush 32, 2) := by decide +kernel
theorem dX5_tear_80 : decode cX5_tear 80 = .ok (.iadd, 1) := by decide +kernel
theorem dX5_tear_81 : decode cX5_tear 81 = .ok (.iastore, 1) := by decide +kernel
theorem dX5_tear_82 : decode cX5_tear 82 = .ok (.iload 5, 2) := by decide +kernel
theorem dX5_tear_84 : decode cX5_tear 84 = .ok (.ireturn, 1) := by decide +kernel
theorem dX5_pairs_0 : decode cX5_pairs 0 = .ok (.iconst 0, 1) := by decide +kernel
theorem dX5_pairs_1 : decode cX5_pairs 1 = .ok (.istore_n 2, 1) := by decide +kernel
theorem dX5_pairs_2 : decode cX5_pairs 2 = .ok (.iconst 0, 1) := by decide +kernel
theorem dX5_pairs_3 : decode cX5_pairs 3 = .ok (.istore_n 3, 1) := by decide +kernel
theorem dX5_pairs_4 : decode cX5_pairs 4 = .ok (.iload_n 3, 1) := by decide +kernel
theorem dX5_pairs_5 : decode cX5_pairs 5 = .ok (.bipush 30, 2) := by decide +kernel
theorem dX5_pairs_7 : decode cX5_pairs 7 = .ok (.if_icmp .ge 81, 3) := by decide +kernel
theorem dX5_pairs_10 : decode cX5_pairs 10 = .ok (.iload_n 3, 1) := by decide +kernel
theorem dX5_pairs_11 : decode cX5_pairs 11 = .ok (.bipush 6, 2) := by decide +kernel
theorem dX5_pairs_13 : decode cX5_pairs 13 = .ok (.irem, 1) := by decide +kernel
theorem dX5_pairs_14 : decode cX5_pairs 14 = .ok (.iconst 5, 1) := by decide +kernel
theorem dX5_pairs_15 : decode cX5_pairs 15 = .ok (.if_icmp .eq 67, 3) := by decide +kernel
theorem dX5_pairs_18 : decode cX5_pairs 18 = .ok (.aload_n 0, 1) := by decide +kernel
theorem dX5_pairs_19 : decode cX5_pairs 19 = .ok (.getfield 9, 3) := by decide +kernel
theorem dX5_pairs_22 : decode cX5_pairs 22 = .ok (.iload_n 1, 1) := by decide +kernel
theorem dX5_pairs_23 : decode cX5_pairs 23 = .ok (.iload_n 3, 1) := by decide +kernel
theorem dX5_pairs_24 : decode cX5_pairs 24 = .ok (.iadd, 1) := by decide +kernel
theorem dX5_pairs_25 : decode cX5_pairs 25 = .ok (.iaload, 1) := by decide +kernel
theorem dX5_pairs_26 : decode cX5_pairs 26 = .ok (.bipush 32, 2) := by decide +kernel
theorem dX5_pairs_28 : decode cX5_pairs 28 = .ok (.if_icmp .ge 54, 3) := by decide +kernel
theorem dX5_pairs_31 : decode cX5_pairs 31 = .ok (.aload_n 0, 1) := by decide +kernel
theorem dX5_pairs_32 : decode cX5_pairs 32 = .ok (.getfield 9, 3) := by decide +kernel
theorem dX5_pairs_35 : decode cX5_pairs 35 = .ok (.iload_n 1, 1) := by decide +kernel
theorem dX5_pairs_36 : decode cX5_pairs 36 = .ok (.iload_n 3, 1) := by decide +kernel
theorem dX5_pairs_37 : decode cX5_pairs 37 = .ok (.iadd, 1) := by decide +kernel
theorem dX5_pairs_38 : decode cX5_pairs 38 = .ok (.iconst 1, 1) := by decide +kernel
theorem dX5_pairs_39 : decode cX5_pairs 39 = .ok (.iadd, 1) := by decide +kernel
theorem dX5_pairs_40 : decode cX5_pairs 40 = .ok (.iaload, 1) := by decide +kernel
theorem dX5_pairs_41 : decode cX5_pairs 41 = .ok (.bipush 32, 2) := by decide +kernel
theorem dX5_pairs_43 : decode cX5_pairs 43 = .ok (.if_icmp .lt 6, 3) := by decide +kernel
theorem dX5_pairs_46 : decode cX5_pairs 46 = .ok (.goto 36, 3) := by decide +kernel
theorem dX5_pairs_49 : decode cX5_pairs 49 = .ok (.iload_n 2, 1) := by decide +kernel
theorem dX5_pairs_50 : decode cX5_pairs 50 = .ok (.aload_n 0, 1) := by decide +kernel
theorem dX5_pairs_51 : decode cX5_pairs 51 = .ok (.getfield 9, 3) := by decide +kernel
theorem dX5_pairs_54 : decode cX5_pairs 54 = .ok (.iload_n 1, 1) := by decide +kernel
theorem dX5_pairs_55 : decode cX5_pairs 55 = .ok (.iload_n 3, 1) := by decide +kernel
theorem dX5_pairs_56 : decode cX5_pairs 56 = .ok (.iadd, 1) := by decide +kernel
theorem dX5_pairs_57 : decode cX5_pairs 57 = .ok (.iaload, 1) := by decide +kernel
theorem dX5_pairs_58 : decode cX5_pairs 58 = .ok (.aload_n 0, 1) := by decide +kernel
theorem dX5_pairs_59 : decode cX5_pairs 59 = .ok (.getfield 9, 3) := by decide +kernel
theorem dX5_pairs_62 : decode cX5_pairs 62 = .ok (.iload_n 1, 1) := by decide +kernel
theorem dX5_pairs_63 : decode cX5_pairs 63 = .ok (.iload_n 3, 1) := by decide +kernel
theorem dX5_pairs_64 : decode cX5_pairs 64 = .ok (.iadd, 1) := by decide +kernel
theorem dX5_pairs_65 : decode cX5_pairs 65 = .ok (.iconst 1, 1) := by decide +kernel
theorem dX5_pairs_66 : decode cX5_pairs 66 = .ok (.iadd, 1) := by decide +kernel
theorem dX5_pairs_67 : decode cX5_pairs 67 = .ok (.iaload, 1) := by decide +kernel
theorem dX5_pairs_68 : decode cX5_pairs 68 = .ok (.ixor, 1) := by decide +kernel
theorem dX5_pairs_69 : decode cX5_pairs 69 = .ok (.bipush 8, 2) := by decide +kernel
theorem dX5_pairs_71 : decode cX5_pairs 71 = .ok (.iand, 1) := by decide +kernel
theorem dX5_pairs_72 : decode cX5_pairs 72 = .ok (.ifCond .eq 7, 3) := by decide +kernel
theorem dX5_pairs_75 : decode cX5_pairs 75 = .ok (.iconst 1, 1) := by decide +kernel
theorem dX5_pairs_76 : decode cX5_pairs 76 = .ok (.goto 4, 3) := by decide +kernel
theorem dX5_pairs_79 : decode cX5_pairs 79 = .ok (.iconst 0, 1) := by decide +kernel
theorem dX5_pairs_80 : decode cX5_pairs 80 = .ok (.iadd, 1) := by decide +kernel
theorem dX5_pairs_81 : decode cX5_pairs 81 = .ok (.istore_n 2, 1) := by decide +kernel
theorem dX5_pairs_82 : decode cX5_pairs 82 = .ok (.iinc 3 1, 3) := by decide +kernel
theorem dX5_pairs_85 : decode cX5_pairs 85 = .ok (.goto (-81), 3) := by decide +kernel
theorem dX5_pairs_88 : decode cX5_pairs 88 = .ok (.iload_n 2, 1) := by decide +kernel
theorem dX5_pairs_89 : decode cX5_pairs 89 = .ok (.ireturn, 1) := by decide +kernel
theorem dX5_isClean_0 : decode cX5_isClean 0 = .ok (.iload_n 2, 1) := by decide +kernel
theorem dX5_isClean_1 : decode cX5_isClean 1 = .ok (.istore 6, 2) := by decide +kernel
theorem dX5_isClean_3 : decode cX5_isClean 3 = .ok (.iload 6, 2) := by decide +kernel
theorem dX5_isClean_5 : decode cX5_isClean 5 = .ok (.iload_n 3, 1) := by decide +kernel
theorem dX5_isClean_6 : decode cX5_isClean 6 = .ok (.if_icmp .gt 46, 3) := by decide +kernel
theorem dX5_isClean_9 : decode cX5_isClean 9 = .ok (.iload 4, 2) := by decide +kernel
theorem dX5_isClean_11 : decode cX5_isClean 11 = .ok (.istore 7, 2) := by decide +kernel
theorem dX5_isClean_13 : decode cX5_isClean 13 = .ok (.iload 7, 2) := by decide +kernel
theorem dX5_isClean_15 : decode cX5_isClean 15 = .ok (.iload 5, 2) := by decide +kernel
theorem dX5_isClean_17 : decode cX5_isClean 17 = .ok (.if_icmp .gt 29, 3) := by decide +kernel
theorem dX5_isClean_20 : decode cX5_isClean 20 = .ok (.aload_n 0, 1) := by decide +kernel
theorem dX5_isClean_21 : decode cX5_isClean 21 = .ok (.getfield 9, 3) := by decide +kernel
theorem dX5_isClean_24 : decode cX5_isClean 24 = .ok (.iload_n 1, 1) := by decide +kernel
theorem dX5_isClean_25 : decode cX5_isClean 25 = .ok (.bipush 6, 2) := by decide +kernel
theorem dX5_isClean_27 : decode cX5_isClean 27 = .ok (.iload 6, 2) := by decide +kernel
theorem dX5_isClean_29 : decode cX5_isClean 29 = .ok (.imul, 1) := by decide +kernel
theorem dX5_isClean_30 : decode cX5_isClean 30 = .ok (.iadd, 1) := by decide +kernel
theorem dX5_isClean_31 : decode cX5_isClean 31 = .ok (.iload 7, 2) := by decide +kernel
theorem dX5_isClean_33 : decode cX5_isClean 33 = .ok (.iadd, 1) := by decide +kernel
theorem dX5_isClean_34 : decode cX5_isClean 34 = .ok (.iaload, 1) := by decide +kernel
theorem dX5_isClean_35 : decode cX5_isClean 35 = .ok (.ifCond .eq 5, 3) := by decide +kernel
theorem dX5_isClean_38 : decode cX5_isClean 38 = .ok (.iconst 0, 1) := by decide +kernel
theorem dX5_isClean_39 : decode cX5_isClean 39 = .ok (.ireturn, 1) := by decide +kernel
theorem dX5_isClean_40 : decode cX5_isClean 40 = .ok (.iinc 7 1, 3) := by decide +kernel
theorem dX5_isClean_43 : decode cX5_isClean 43 = .ok (.goto (-30), 3) := by decide +kernel
theorem dX5_isClean_46 : decode cX5_isClean 46 = .ok (.iinc 6 1, 3) := by decide +kernel
theorem dX5_isClean_49 : decode cX5_isClean 49 = .ok (.goto (-46), 3) := by decide +kernel
theorem dX5_isClean_52 : decode cX5_isClean 52 = .ok (.iconst 1, 1) := by decide +kernel
theorem dX5_isClean_53 : decode cX5_isClean 53 = .ok (.ireturn, 1) := by decide +kernel
set_option maxRecDepth 20000 in
theorem ggX5_block_X5_isClean : GoodIn wsX5_block wsX5_isClean := goodIn_r _ [9, 10, 11, 12, 13, 14, 15, 16, 17, 18] (by decide +kernel) (by decide +kernel)
set_option maxRecDepth 20000 in
theorem gX5_block_X5_isClean : GoodIn wsX5_block (wsV RX5 80 RX5 yX5_isClean wsX5_isClean) := goodIn_app (goodIn_of _ (by decide +kernel)) ggX5_block_X5_isClean
theorem dX5_block_0 : decode cX5_block 0 = .ok (.iconst 0, 1) := by decide +kernel
theorem dX5_block_1 : decode cX5_block 1 = .ok (.istore_n 2, 1) := by decide +kernel
theorem dX5_block_2 : decode cX5_block 2 = .ok (.iconst 0, 1) := by decide +kernel
theorem dX5_block_3 : decode cX5_block 3 = .ok (.istore_n 3, 1) := by decide +kernel
theorem dX5_block_4 : decode cX5_block 4 = .ok (.iload_n 3, 1) := by decide +kernel
theorem dX5_block_5 : decode cX5_block 5 = .ok (.iconst 5, 1) := by decide +kernel
theorem dX5_block_6 : decode cX5_block 6 = .ok (.if_icmp .ge 91, 3) := by decide +kernel
theorem dX5_block_9 : decode cX5_block 9 = .ok (.iload_n 3, 1) := by decide +kernel
theorem dX5_block_10 : decode cX5_block 10 = .ok (.istore 4, 2) := by decide +kernel
theorem dX5_block_12 : decode cX5_block 12 = .ok (.iload 4, 2) := by decide +kernel
theorem dX5_block_14 : decode cX5_block 14 = .ok (.iconst 5, 1) := by decide +kernel
theorem dX5_block_15 : decode cX5_block 15 = .ok (.if_icmp .ge 76, 3) := by decide +kernel
theorem dX5_block_18 : decode cX5_block 18 = .ok (.iconst 0, 1) := by decide +kernel
theorem dX5_block_19 : decode cX5_block 19 = .ok (.istore 5, 2) := by decide +kernel
theorem dX5_block_21 : decode cX5_block 21 = .ok (.iload 5, 2) := by decide +kernel
theorem dX5_block_23 : decode cX5_block 23 = .ok (.bipush 6, 2) := by decide +kernel
theorem dX5_block_25 : decode cX5_block 25 = .ok (.if_icmp .ge 60, 3) := by decide +kernel
theorem dX5_block_28 : decode cX5_block 28 = .ok (.iload 5, 2) := by decide +kernel
theorem dX5_block_30 : decode cX5_block 30 = .ok (.istore 6, 2) := by decide +kernel
theorem dX5_block_32 : decode cX5_block 32 = .ok (.iload 6, 2) := by decide +kernel
theorem dX5_block_34 : decode cX5_block 34 = .ok (.bipush 6, 2) := by decide +kernel
theorem dX5_block_36 : decode cX5_block 36 = .ok (.if_icmp .ge 43, 3) := by decide +kernel
theorem dX5_block_39 : decode cX5_block 39 = .ok (.aload_n 0, 1) := by decide +kernel
theorem dX5_block_40 : decode cX5_block 40 = .ok (.iload_n 1, 1) := by decide +kernel
theorem dX5_block_41 : decode cX5_block 41 = .ok (.iload_n 3, 1) := by decide +kernel
theorem dX5_block_42 : decode cX5_block 42 = .ok (.iload 4, 2) := by decide +kernel
theorem dX5_block_44 : decode cX5_block 44 = .ok (.iload 5, 2) := by decide +kernel
theorem dX5_block_46 : decode cX5_block 46 = .ok (.iload 6, 2) := by decide +kernel
theorem dX5_block_48 : decode cX5_block 48 = .ok (.invokevirtual 80, 3) := by decide +kernel
theorem dX5_block_51 : decode cX5_block 51 = .ok (.ifCond .eq 22, 3) := by decide +kernel
theorem dX5_block_54 : decode cX5_block 54 = .ok (.iload_n 2, 1) := by decide +kernel
theorem dX5_block_55 : decode cX5_block 55 = .ok (.iload 4, 2) := by decide +kernel
theorem dX5_block_57 : decode cX5_block 57 = .ok (.iload_n 3, 1) := by decide +kernel
theorem dX5_block_58 : decode cX5_block 58 = .ok (.isub, 1) := by decide +kernel
theorem dX5_block_59 : decode cX5_block 59 = .ok (.iconst 1, 1) := by decide +kernel
theorem dX5_block_60 : decode cX5_block 60 = .ok (.iadd, 1) := by decide +kernel
theorem dX5_block_61 : decode cX5_block 61 = .ok (.iload 6, 2) := by decide +kernel
theorem dX5_block_63 : decode cX5_block 63 = .ok (.iload 5, 2) := by decide +kernel
theorem dX5_block_65 : decode cX5_block 65 = .ok (.isub, 1) := by decide +kernel
theorem dX5_block_66 : decode cX5_block 66 = .ok (.iconst 1, 1) := by decide +kernel
theorem dX5_block_67 : decode cX5_block 67 = .ok (.iadd, 1) := by decide +kernel
theorem dX5_block_68 : decode cX5_block 68 = .ok (.imul, 1) := by decide +kernel
theorem dX5_block_69 : decode cX5_block 69 = .ok (.invokestatic 62, 3) := by decide +kernel
theorem dX5_block_72 : decode cX5_block 72 = .ok (.istore_n 2, 1) := by decide +kernel
theorem dX5_block_73 : decode cX5_block 73 = .ok (.iinc 6 1, 3) := by decide +kernel
theorem dX5_block_76 : decode cX5_block 76 = .ok (.goto (-44), 3) := by decide +kernel
theorem dX5_block_79 : decode cX5_block 79 = .ok (.iinc 5 1, 3) := by decide +kernel
theorem dX5_block_82 : decode cX5_block 82 = .ok (.goto (-61), 3) := by decide +kernel
theorem dX5_block_85 : decode cX5_block 85 = .ok (.iinc 4 1, 3) := by decide +kernel
theorem dX5_block_88 : decode cX5_block 88 = .ok (.goto (-76), 3) := by decide +kernel
theorem dX5_block_91 : decode cX5_block 91 = .ok (.iinc 3 1, 3) := by decide +kernel
theorem dX5_block_94 : decode cX5_block 94 = .ok (.goto (-90), 3) := by decide +kernel
theorem dX5_block_97 : decode cX5_block 97 = .ok (.iload_n 2, 1) := by decide +kernel
theorem dX5_block_98 : decode cX5_block 98 = .ok (.ireturn, 1) := by decide +kernel
set_option maxRecDepth 20000 in
theorem ggX5_sheetTold_X5_pairs : GoodIn wsX5_sheetTold wsX5_pairs := goodIn_r _ [6, 1, 22, 23, 24, 25, 26, 27, 28, 29] (by decide +kernel) (by decide +kernel)
set_option maxRecDepth 20000 in
theorem gX5_sheetTold_X5_pairs : GoodIn wsX5_sheetTold (wsV RX5 84 RX5 yX5_pairs wsX5_pairs) := goodIn_app (goodIn_of _ (by decide +kernel)) ggX5_sheetTold_X5_pairs
set_option maxRecDepth 20000 in
theorem ggX5_sheetTold_X5_block : GoodIn wsX5_sheetTold wsX5_block := goodIn_r _ [10, 11, 12, 13, 14, 15, 16, 17, 5, 18, 1, 22, 23, 24, 25, 26, 27, 28, 29] (by decide +kernel) (by decide +kernel)
set_option maxRecDepth 20000 in
theorem gX5_sheetTold_X5_block : GoodIn wsX5_sheetTold (wsV RX5 87 RX5 yX5_block wsX5_block) := goodIn_app (goodIn_of _ (by decide +kernel)) ggX5_sheetTold_X5_block
set_option maxRecDepth 20000 in
theorem ggX5_sheetTold_X5_worth : GoodIn wsX5_sheetTold wsX5_worth := goodIn_r _ [21] (by decide +kernel) (by decide +kernel)
set_option maxRecDepth 20000 in
theorem gX5_sheetTold_X5_worth : GoodIn wsX5_sheetTold (va_wsS RX5 77 yX5_worth wsX5_worth) := goodIn_app (goodIn_of _ (by decide +kernel)) ggX5_sheetTold_X5_worth
theorem dX5_sheetTold_0 : decode cX5_sheetTold 0 = .ok (.bipush 30, 2) := by decide +kernel
theorem dX5_sheetTold_2 : decode cX5_sheetTold 2 = .ok (.iload_n 1, 1) := by decide +kernel
theorem dX5_sheetTold_3 : decode cX5_sheetTold 3 = .ok (.imul, 1) := by decide +kernel
theorem dX5_sheetTold_4 : decode cX5_sheetTold 4 = .ok (.istore_n 3, 1) := by decide +kernel
theorem dX5_sheetTold_5 : decode cX5_sheetTold 5 = .ok (.iconst 0, 1) := by decide +kernel
theorem dX5_sheetTold_6 : decode cX5_sheetTold 6 = .ok (.istore 4, 2) := by decide +kernel
theorem dX5_sheetTold_8 : decode cX5_sheetTold 8 = .ok (.iload_n 2, 1) := by decide +kernel
theorem dX5_sheetTold_9 : decode cX5_sheetTold 9 = .ok (.iconst 3, 1) := by decide +kernel
theorem dX5_sheetTold_10 : decode cX5_sheetTold 10 = .ok (.if_icmp .ne 9, 3) := by decide +kernel
theorem dX5_sheetTold_13 : decode cX5_sheetTold 13 = .ok (.aload_n 0, 1) := by decide +kernel
theorem dX5_sheetTold_14 : decode cX5_sheetTold 14 = .ok (.iload_n 3, 1) := by decide +kernel
theorem dX5_sheetTold_15 : decode cX5_sheetTold 15 = .ok (.invokevirtual 84, 3) := by decide +kernel
theorem dX5_sheetTold_18 : decode cX5_sheetTold 18 = .ok (.ireturn, 1) := by decide +kernel
theorem dX5_sheetTold_19 : decode cX5_sheetTold 19 = .ok (.iload_n 2, 1) := by decide +kernel
theorem dX5_sheetTold_20 : decode cX5_sheetTold 20 = .ok (.iconst 5, 1) := by decide +kernel
theorem dX5_sheetTold_21 : decode cX5_sheetTold 21 = .ok (.if_icmp .ne 9, 3) := by decide +kernel
theorem dX5_sheetTold_24 : decode cX5_sheetTold 24 = .ok (.aload_n 0, 1) := by decide +kernel
theorem dX5_sheetTold_25 : decode cX5_sheetTold 25 = .ok (.iload_n 3, 1) := by decide +kernel
theorem dX5_sheetTold_26 : decode cX5_sheetTold 26 = .ok (.invokevirtual 87, 3) := by decide +kernel
theorem dX5_sheetTold_29 : decode cX5_sheetTold 29 = .ok (.ireturn, 1) := by decide +kernel
theorem dX5_sheetTold_30 : decode cX5_sheetTold 30 = .ok (.iconst 0, 1) := by decide +kernel
theorem dX5_sheetTold_31 : decode cX5_sheetTold 31 = .ok (.istore 5, 2) := by decide +kernel
theorem dX5_sheetTold_33 : decode cX5_sheetTold 33 = .ok (.iload 5, 2) := by decide +kernel
theorem dX5_sheetTold_35 : decode cX5_sheetTold 35 = .ok (.bipush 30, 2) := by decide +kernel
theorem dX5_sheetTold_37 : decode cX5_sheetTold 37 = .ok (.if_icmp .ge 98, 3) := by decide +kernel
theorem dX5_sheetTold_40 : decode cX5_sheetTold 40 = .ok (.aload_n 0, 1) := by decide +kernel
theorem dX5_sheetTold_41 : decode cX5_sheetTold 41 = .ok (.getfield 9, 3) := by decide +kernel
theorem dX5_sheetTold_44 : decode cX5_sheetTold 44 = .ok (.iload_n 3, 1) := by decide +kernel
theorem dX5_sheetTold_45 : decode cX5_sheetTold 45 = .ok (.iload 5, 2) := by decide +kernel
theorem dX5_sheetTold_47 : decode cX5_sheetTold 47 = .ok (.iadd, 1) := by decide +kernel
theorem dX5_sheetTold_48 : decode cX5_sheetTold 48 = .ok (.iaload, 1) := by decide +kernel
theorem dX5_sheetTold_49 : decode cX5_sheetTold 49 = .ok (.istore 6, 2) := by decide +kernel
theorem dX5_sheetTold_51 : decode cX5_sheetTold 51 = .ok (.iload_n 2, 1) := by decide +kernel
theorem dX5_sheetTold_52 : decode cX5_sheetTold 52 = .ok (.ifCond .ne 20, 3) := by decide +kernel
theorem dX5_sheetTold_55 : decode cX5_sheetTold 55 = .ok (.iload 4, 2) := by decide +kernel
theorem dX5_sheetTold_57 : decode cX5_sheetTold 57 = .ok (.iload 6, 2) := by decide +kernel
theorem dX5_sheetTold_59 : decode cX5_sheetTold 59 = .ok (.bipush 32, 2) := by decide +kernel
theorem dX5_sheetTold_61 : decode cX5_sheetTold 61 = .ok (.if_icmp .ge 7, 3) := by decide +kernel
theorem dX5_sheetTold_64 : decode cX5_sheetTold 64 = .ok (.iconst 1, 1) := by decide +kernel
theorem dX5_sheetTold_65 : decode cX5_sheetTold 65 = .ok (.goto 4, 3) := by decide +kernel
theorem dX5_sheetTold_68 : decode cX5_sheetTold 68 = .ok (.iconst 0, 1) := by decide +kernel
theorem dX5_sheetTold_69 : decode cX5_sheetTold 69 = .ok (.iadd, 1) := by decide +kernel
theorem dX5_sheetTold_70 : decode cX5_sheetTold 70 = .ok (.istore 4, 2) := by decide +kernel
theorem dX5_sheetTold_72 : decode cX5_sheetTold 72 = .ok (.iload_n 2, 1) := by decide +kernel
theorem dX5_sheetTold_73 : decode cX5_sheetTold 73 = .ok (.iconst 1, 1) := by decide +kernel
theorem dX5_sheetTold_74 : decode cX5_sheetTold 74 = .ok (.if_icmp .ne 18, 3) := by decide +kernel
theorem dX5_sheetTold_77 : decode cX5_sheetTold 77 = .ok (.iload 4, 2) := by decide +kernel
theorem dX5_sheetTold_79 : decode cX5_sheetTold 79 = .ok (.iload 6, 2) := by decide +kernel
theorem dX5_sheetTold_81 : decode cX5_sheetTold 81 = .ok (.ifCond .ne 7, 3) := by decide +kernel
theorem dX5_sheetTold_84 : decode cX5_sheetTold 84 = .ok (.iconst 1, 1) := by decide +kernel
theorem dX5_sheetTold_85 : decode cX5_sheetTold 85 = .ok (.goto 4, 3) := by decide +kernel
theorem dX5_sheetTold_88 : decode cX5_sheetTold 88 = .ok (.iconst 0, 1) := by decide +kernel
theorem dX5_sheetTold_89 : decode cX5_sheetTold 89 = .ok (.iadd, 1) := by decide +kernel
theorem dX5_sheetTold_90 : decode cX5_sheetTold 90 = .ok (.istore 4, 2) := by decide +kernel
theorem dX5_sheetTold_92 : decode cX5_sheetTold 92 = .ok (.iload_n 2, 1) := by decide +kernel
theorem dX5_sheetTold_93 : decode cX5_sheetTold 93 = .ok (.iconst 2, 1) := by decide +kernel
theorem dX5_sheetTold_94 : decode cX5_sheetTold 94 = .ok (.if_icmp .ne 13, 3) := by decide +kernel
theorem dX5_sheetTold_97 : decode cX5_sheetTold 97 = .ok (.iload 4, 2) := by decide +kernel
theorem dX5_sheetTold_99 : decode cX5_sheetTold 99 = .ok (.iload 6, 2) := by decide +kernel
theorem dX5_sheetTold_101 : decode cX5_sheetTold 101 = .ok (.invokestatic 77, 3) := by decide +kernel
theorem dX5_sheetTold_104 : decode cX5_sheetTold 104 = .ok (.iadd, 1) := by decide +kernel
theorem dX5_sheetTold_105 : decode cX5_sheetTold 105 = .ok (.istore 4, 2) := by decide +kernel
theorem dX5_sheetTold_107 : decode cX5_sheetTold 107 = .ok (.iload_n 2, 1) := by decide +kernel
theorem dX5_sheetTold_108 : decode cX5_sheetTold 108 = .ok (.iconst 4, 1) := by decide +kernel
theorem dX5_sheetTold_109 : decode cX5_sheetTold 109 = .ok (.if_icmp .ne 20, 3) := by decide +kernel
theorem dX5_sheetTold_112 : decode cX5_sheetTold 112 = .ok (.iload 5, 2) := by decide +kernel
theorem dX5_sheetTold_114 : decode cX5_sheetTold 114 = .ok (.bipush 6, 2) := by decide +kernel
theorem dX5_sheetTold_116 : decode cX5_sheetTold 116 = .ok (.irem, 1) := by decide +kernel
theorem dX5_sheetTold_117 : decode cX5_sheetTold 117 = .ok (.ifCond .ne 12, 3) := by decide +kernel
