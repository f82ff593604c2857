theorem dX2_greatestBlock_3 : decode cX2_greatestBlock 3 = .ok (.istore_n 2, 1) := by decide +kernel
theorem dX2_greatestBlock_4 : decode cX2_greatestBlock 4 = .ok (.iload_n 2, 1) := by decide +kernel
theorem dX2_greatestBlock_5 : decode cX2_greatestBlock 5 = .ok (.iconst 5, 1) := by decide +kernel
theorem dX2_greatestBlock_6 : decode cX2_greatestBlock 6 = .ok (.if_icmp .ge 55, 3) := by decide +kernel
theorem dX2_greatestBlock_9 : decode cX2_greatestBlock 9 = .ok (.aload_n 0, 1) := by decide +kernel
theorem dX2_greatestBlock_10 : decode cX2_greatestBlock 10 = .ok (.iload_n 2, 1) := by decide +kernel
theorem dX2_greatestBlock_11 : decode cX2_greatestBlock 11 = .ok (.invokevirtual 50, 3) := by decide +kernel
theorem dX2_greatestBlock_14 : decode cX2_greatestBlock 14 = .ok (.istore_n 3, 1) := by decide +kernel
theorem dX2_greatestBlock_15 : decode cX2_greatestBlock 15 = .ok (.iload_n 2, 1) := by decide +kernel
theorem dX2_greatestBlock_16 : decode cX2_greatestBlock 16 = .ok (.istore 4, 2) := by decide +kernel
theorem dX2_greatestBlock_18 : decode cX2_greatestBlock 18 = .ok (.iload 4, 2) := by decide +kernel
theorem dX2_greatestBlock_20 : decode cX2_greatestBlock 20 = .ok (.iconst 5, 1) := by decide +kernel
theorem dX2_greatestBlock_21 : decode cX2_greatestBlock 21 = .ok (.if_icmp .ge 34, 3) := by decide +kernel
theorem dX2_greatestBlock_24 : decode cX2_greatestBlock 24 = .ok (.iload_n 3, 1) := by decide +kernel
theorem dX2_greatestBlock_25 : decode cX2_greatestBlock 25 = .ok (.aload_n 0, 1) := by decide +kernel
theorem dX2_greatestBlock_26 : decode cX2_greatestBlock 26 = .ok (.iload 4, 2) := by decide +kernel
theorem dX2_greatestBlock_28 : decode cX2_greatestBlock 28 = .ok (.invokevirtual 50, 3) := by decide +kernel
theorem dX2_greatestBlock_31 : decode cX2_greatestBlock 31 = .ok (.iand, 1) := by decide +kernel
theorem dX2_greatestBlock_32 : decode cX2_greatestBlock 32 = .ok (.istore_n 3, 1) := by decide +kernel
theorem dX2_greatestBlock_33 : decode cX2_greatestBlock 33 = .ok (.iload_n 1, 1) := by decide +kernel
theorem dX2_greatestBlock_34 : decode cX2_greatestBlock 34 = .ok (.iload 4, 2) := by decide +kernel
theorem dX2_greatestBlock_36 : decode cX2_greatestBlock 36 = .ok (.iload_n 2, 1) := by decide +kernel
theorem dX2_greatestBlock_37 : decode cX2_greatestBlock 37 = .ok (.isub, 1) := by decide +kernel
theorem dX2_greatestBlock_38 : decode cX2_greatestBlock 38 = .ok (.iconst 1, 1) := by decide +kernel
theorem dX2_greatestBlock_39 : decode cX2_greatestBlock 39 = .ok (.iadd, 1) := by decide +kernel
theorem dX2_greatestBlock_40 : decode cX2_greatestBlock 40 = .ok (.iload_n 3, 1) := by decide +kernel
theorem dX2_greatestBlock_41 : decode cX2_greatestBlock 41 = .ok (.invokestatic 53, 3) := by decide +kernel
theorem dX2_greatestBlock_44 : decode cX2_greatestBlock 44 = .ok (.imul, 1) := by decide +kernel
theorem dX2_greatestBlock_45 : decode cX2_greatestBlock 45 = .ok (.invokestatic 56, 3) := by decide +kernel
theorem dX2_greatestBlock_48 : decode cX2_greatestBlock 48 = .ok (.istore_n 1, 1) := by decide +kernel
theorem dX2_greatestBlock_49 : decode cX2_greatestBlock 49 = .ok (.iinc 4 1, 3) := by decide +kernel
theorem dX2_greatestBlock_52 : decode cX2_greatestBlock 52 = .ok (.goto (-34), 3) := by decide +kernel
theorem dX2_greatestBlock_55 : decode cX2_greatestBlock 55 = .ok (.iinc 2 1, 3) := by decide +kernel
theorem dX2_greatestBlock_58 : decode cX2_greatestBlock 58 = .ok (.goto (-54), 3) := by decide +kernel
theorem dX2_greatestBlock_61 : decode cX2_greatestBlock 61 = .ok (.iload_n 1, 1) := by decide +kernel
theorem dX2_greatestBlock_62 : decode cX2_greatestBlock 62 = .ok (.ireturn, 1) := by decide +kernel
set_option maxRecDepth 20000 in
theorem ggX2_goodColumns_X2_isLeftWith : GoodIn wsX2_goodColumns wsX2_isLeftWith := goodIn_r _ [5, 6, 7, 8, 9] (by decide +kernel) (by decide +kernel)
set_option maxRecDepth 20000 in
theorem gX2_goodColumns_X2_isLeftWith : GoodIn wsX2_goodColumns (wsV RX2 42 RX2 yX2_isLeftWith wsX2_isLeftWith) := goodIn_app (goodIn_of _ (by decide +kernel)) ggX2_goodColumns_X2_isLeftWith
theorem dX2_goodColumns_0 : decode cX2_goodColumns 0 = .ok (.iconst 0, 1) := by decide +kernel
theorem dX2_goodColumns_1 : decode cX2_goodColumns 1 = .ok (.istore_n 2, 1) := by decide +kernel
theorem dX2_goodColumns_2 : decode cX2_goodColumns 2 = .ok (.iconst 0, 1) := by decide +kernel
theorem dX2_goodColumns_3 : decode cX2_goodColumns 3 = .ok (.istore_n 3, 1) := by decide +kernel
theorem dX2_goodColumns_4 : decode cX2_goodColumns 4 = .ok (.iload_n 3, 1) := by decide +kernel
theorem dX2_goodColumns_5 : decode cX2_goodColumns 5 = .ok (.bipush 6, 2) := by decide +kernel
theorem dX2_goodColumns_7 : decode cX2_goodColumns 7 = .ok (.if_icmp .ge 29, 3) := by decide +kernel
theorem dX2_goodColumns_10 : decode cX2_goodColumns 10 = .ok (.aload_n 0, 1) := by decide +kernel
theorem dX2_goodColumns_11 : decode cX2_goodColumns 11 = .ok (.bipush 6, 2) := by decide +kernel
theorem dX2_goodColumns_13 : decode cX2_goodColumns 13 = .ok (.iload_n 1, 1) := by decide +kernel
theorem dX2_goodColumns_14 : decode cX2_goodColumns 14 = .ok (.imul, 1) := by decide +kernel
theorem dX2_goodColumns_15 : decode cX2_goodColumns 15 = .ok (.iload_n 3, 1) := by decide +kernel
theorem dX2_goodColumns_16 : decode cX2_goodColumns 16 = .ok (.iadd, 1) := by decide +kernel
theorem dX2_goodColumns_17 : decode cX2_goodColumns 17 = .ok (.iconst 0, 1) := by decide +kernel
theorem dX2_goodColumns_18 : decode cX2_goodColumns 18 = .ok (.invokevirtual 42, 3) := by decide +kernel
theorem dX2_goodColumns_21 : decode cX2_goodColumns 21 = .ok (.ifCond .eq 9, 3) := by decide +kernel
theorem dX2_goodColumns_24 : decode cX2_goodColumns 24 = .ok (.iload_n 2, 1) := by decide +kernel
theorem dX2_goodColumns_25 : decode cX2_goodColumns 25 = .ok (.iconst 1, 1) := by decide +kernel
theorem dX2_goodColumns_26 : decode cX2_goodColumns 26 = .ok (.iload_n 3, 1) := by decide +kernel
theorem dX2_goodColumns_27 : decode cX2_goodColumns 27 = .ok (.ishl, 1) := by decide +kernel
theorem dX2_goodColumns_28 : decode cX2_goodColumns 28 = .ok (.ior, 1) := by decide +kernel
theorem dX2_goodColumns_29 : decode cX2_goodColumns 29 = .ok (.istore_n 2, 1) := by decide +kernel
theorem dX2_goodColumns_30 : decode cX2_goodColumns 30 = .ok (.iinc 3 1, 3) := by decide +kernel
theorem dX2_goodColumns_33 : decode cX2_goodColumns 33 = .ok (.goto (-29), 3) := by decide +kernel
theorem dX2_goodColumns_36 : decode cX2_goodColumns 36 = .ok (.iload_n 2, 1) := by decide +kernel
theorem dX2_goodColumns_37 : decode cX2_goodColumns 37 = .ok (.ireturn, 1) := by decide +kernel
theorem dX2_longestRun_0 : decode cX2_longestRun 0 = .ok (.iconst 0, 1) := by decide +kernel
theorem dX2_longestRun_1 : decode cX2_longestRun 1 = .ok (.istore_n 1, 1) := by decide +kernel
theorem dX2_longestRun_2 : decode cX2_longestRun 2 = .ok (.iconst 0, 1) := by decide +kernel
theorem dX2_longestRun_3 : decode cX2_longestRun 3 = .ok (.istore_n 2, 1) := by decide +kernel
theorem dX2_longestRun_4 : decode cX2_longestRun 4 = .ok (.iconst 0, 1) := by decide +kernel
theorem dX2_longestRun_5 : decode cX2_longestRun 5 = .ok (.istore_n 3, 1) := by decide +kernel
theorem dX2_longestRun_6 : decode cX2_longestRun 6 = .ok (.iload_n 3, 1) := by decide +kernel
theorem dX2_longestRun_7 : decode cX2_longestRun 7 = .ok (.bipush 6, 2) := by decide +kernel
theorem dX2_longestRun_9 : decode cX2_longestRun 9 = .ok (.if_icmp .ge 31, 3) := by decide +kernel
theorem dX2_longestRun_12 : decode cX2_longestRun 12 = .ok (.iload_n 0, 1) := by decide +kernel
theorem dX2_longestRun_13 : decode cX2_longestRun 13 = .ok (.iconst 1, 1) := by decide +kernel
theorem dX2_longestRun_14 : decode cX2_longestRun 14 = .ok (.iload_n 3, 1) := by decide +kernel
theorem dX2_longestRun_15 : decode cX2_longestRun 15 = .ok (.ishl, 1) := by decide +kernel
theorem dX2_longestRun_16 : decode cX2_longestRun 16 = .ok (.iand, 1) := by decide +kernel
theorem dX2_longestRun_17 : decode cX2_longestRun 17 = .ok (.ifCond .eq 9, 3) := by decide +kernel
theorem dX2_longestRun_20 : decode cX2_longestRun 20 = .ok (.iload_n 2, 1) := by decide +kernel
theorem dX2_longestRun_21 : decode cX2_longestRun 21 = .ok (.iconst 1, 1) := by decide +kernel
theorem dX2_longestRun_22 : decode cX2_longestRun 22 = .ok (.iadd, 1) := by decide +kernel
theorem dX2_longestRun_23 : decode cX2_longestRun 23 = .ok (.goto 4, 3) := by decide +kernel
theorem dX2_longestRun_26 : decode cX2_longestRun 26 = .ok (.iconst 0, 1) := by decide +kernel
theorem dX2_longestRun_27 : decode cX2_longestRun 27 = .ok (.istore_n 2, 1) := by decide +kernel
theorem dX2_longestRun_28 : decode cX2_longestRun 28 = .ok (.iload_n 1, 1) := by decide +kernel
theorem dX2_longestRun_29 : decode cX2_longestRun 29 = .ok (.iload_n 2, 1) := by decide +kernel
theorem dX2_longestRun_30 : decode cX2_longestRun 30 = .ok (.invokestatic 56, 3) := by decide +kernel
theorem dX2_longestRun_33 : decode cX2_longestRun 33 = .ok (.istore_n 1, 1) := by decide +kernel
theorem dX2_longestRun_34 : decode cX2_longestRun 34 = .ok (.iinc 3 1, 3) := by decide +kernel
theorem dX2_longestRun_37 : decode cX2_longestRun 37 = .ok (.goto (-31), 3) := by decide +kernel
theorem dX2_longestRun_40 : decode cX2_longestRun 40 = .ok (.iload_n 1, 1) := by decide +kernel
theorem dX2_longestRun_41 : decode cX2_longestRun 41 = .ok (.ireturn, 1) := by decide +kernel
set_option maxRecDepth 20000 in
theorem ggX3_init_X0_init : GoodIn wsX3_init wsX0_init := goodIn_r _ [14, 15, 2, 3, 16, 17, 18, 19, 20, 21, 22, 23, 24, 25, 34, 35, 36, 37, 38, 39, 40, 47, 48] (by decide +kernel) (by decide +kernel)
set_option maxRecDepth 20000 in
theorem gX3_init_X0_init : GoodIn wsX3_init (wsX0_init) := ggX3_init_X0_init
set_option maxRecDepth 20000 in
theorem ggX3_init_X2_init : GoodIn wsX3_init wsX2_init := goodIn_r _ [28, 29, 2, 3, 30, 31, 32, 33, 45, 46] (by decide +kernel) (by decide +kernel)
set_option maxRecDepth 20000 in
theorem gX3_init_X2_init : GoodIn wsX3_init (wsX2_init) := ggX3_init_X2_init
theorem dX3_init_0 : decode cX3_init 0 = .ok (.aload_n 0, 1) := by decide +kernel
theorem dX3_init_1 : decode cX3_init 1 = .ok (.invokespecial 1, 3) := by decide +kernel
theorem dX3_init_4 : decode cX3_init 4 = .ok (.aload_n 0, 1) := by decide +kernel
theorem dX3_init_5 : decode cX3_init 5 = .ok (.new 7, 3) := by decide +kernel
theorem dX3_init_8 : decode cX3_init 8 = .ok (.dup, 1) := by decide +kernel
theorem dX3_init_9 : decode cX3_init 9 = .ok (.invokespecial 9, 3) := by decide +kernel
theorem dX3_init_12 : decode cX3_init 12 = .ok (.putfield 10, 3) := by decide +kernel
theorem dX3_init_15 : decode cX3_init 15 = .ok (.aload_n 0, 1) := by decide +kernel
theorem dX3_init_16 : decode cX3_init 16 = .ok (.new 16, 3) := by decide +kernel
theorem dX3_init_19 : decode cX3_init 19 = .ok (.dup, 1) := by decide +kernel
theorem dX3_init_20 : decode cX3_init 20 = .ok (.invokespecial 18, 3) := by decide +kernel
theorem dX3_init_23 : decode cX3_init 23 = .ok (.putfield 19, 3) := by decide +kernel
theorem dX3_init_26 : decode cX3_init 26 = .ok (.return_, 1) := by decide +kernel
set_option maxRecDepth 20000 in
theorem ggX3_perforateFrom_X0_becomeLike : GoodIn wsX3_perforateFrom wsX0_becomeLike := goodIn_r _ [9, 10, 11, 12, 13, 14, 15, 16, 17, 18, 19, 20, 21, 22, 23, 86, 87, 88, 89, 90, 91, 92, 93, 94] (by decide +kernel) (by decide +kernel)
set_option maxRecDepth 20000 in
theorem gX3_perforateFrom_X0_becomeLike : GoodIn wsX3_perforateFrom (wsV RX3 23 RX0 yX0_becomeLike wsX0_becomeLike) := goodIn_app (goodIn_of _ (by decide +kernel)) ggX3_perforateFrom_X0_becomeLike
set_option maxRecDepth 20000 in
theorem ggX3_perforateFrom_X0_perforate : GoodIn wsX3_perforateFrom wsX0_perforate := goodIn_r _ [27, 13, 11, 14, 15, 12, 28, 29, 30, 31, 32, 33, 34, 35, 36, 37, 8, 38, 39, 40, 41, 42, 43, 44, 45, 10, 46, 47, 48, 20, 49, 23, 22, 50, 51, 52, 53, 16, 54, 55, 56, 57, 58, 59, 60, 61, 62, 86, 87, 88, 89, 90, 91, 92, 95, 96, 93, 94] (by decide +kernel) (by decide +kernel)
set_option maxRecDepth 20000 in
theorem gX3_perforateFrom_X0_perforate : GoodIn wsX3_perforateFrom (wsV RX3 37 RX0 yX0_perforate wsX0_perforate) := goodIn_app (goodIn_of _ (by decide +kernel)) ggX3_perforateFrom_X0_perforate
set_option maxRecDepth 20000 in
theorem ggX3_perforateFrom_X2_leftWith : GoodIn wsX3_perforateFrom wsX2_leftWith := goodIn_r _ [67, 68, 69, 70, 66, 71, 72, 73, 95, 96] (by decide +kernel) (by decide +kernel)
set_option maxRecDepth 20000 in
theorem gX3_perforateFrom_X2_leftWith : GoodIn wsX3_perforateFrom (wsV RX3 41 RX2 yX2_leftWith wsX2_leftWith) := goodIn_app (goodIn_of _ (by decide +kernel)) ggX3_perforateFrom_X2_leftWith
set_option maxRecDepth 20000 in
theorem ggX3_perforateFrom_X2_worth : GoodIn wsX3_perforateFrom wsX2_worth := goodIn_r _ [77, 78, 79, 80, 66, 81, 73, 72, 95, 96] (by decide +kernel) (by decide +kernel)
set_option maxRecDepth 20000 in
theorem gX3_perforateFrom_X2_worth : GoodIn wsX3_perforateFrom (wsV RX3 45 RX2 yX2_worth wsX2_worth) := goodIn_app (goodIn_of _ (by decide +kernel)) ggX3_perforateFrom_X2_worth
theorem dX3_perforateFrom_0 : decode cX3_perforateFrom 0 = .ok (.aload_n 0, 1) := by decide +kernel
theorem dX3_perforateFrom_1 : decode cX3_perforateFrom 1 = .ok (.getfield 10, 3) := by decide +kernel
theorem dX3_perforateFrom_4 : decode cX3_perforateFrom 4 = .ok (.aload_n 1, 1) := by decide +kernel
theorem dX3_perforateFrom_5 : decode cX3_perforateFrom 5 = .ok (.invokevirtual 23, 3) := by decide +kernel
theorem dX3_perforateFrom_8 : decode cX3_perforateFrom 8 = .ok (.aload_n 0, 1) := by decide +kernel
theorem dX3_perforateFrom_9 : decode cX3_perforateFrom 9 = .ok (.getfield 10, 3) := by decide +kernel
theorem dX3_perforateFrom_12 : decode cX3_perforateFrom 12 = .ok (.iload_n 2, 1) := by decide +kernel
theorem dX3_perforateFrom_13 : decode cX3_perforateFrom 13 = .ok (.putfield 27, 3) := by decide +kernel
theorem dX3_perforateFrom_16 : decode cX3_perforateFrom 16 = .ok (.aload_n 0, 1) := by decide +kernel
theorem dX3_perforateFrom_17 : decode cX3_perforateFrom 17 = .ok (.iconst 0, 1) := by decide +kernel
theorem dX3_perforateFrom_18 : decode cX3_perforateFrom 18 = .ok (.putfield 31, 3) := by decide +kernel
theorem dX3_perforateFrom_21 : decode cX3_perforateFrom 21 = .ok (.aload_n 0, 1) := by decide +kernel
theorem dX3_perforateFrom_22 : decode cX3_perforateFrom 22 = .ok (.iconst 0, 1) := by decide +kernel
theorem dX3_perforateFrom_23 : decode cX3_perforateFrom 23 = .ok (.putfield 34, 3) := by decide +kernel
theorem dX3_perforateFrom_26 : decode cX3_perforateFrom 26 = .ok (.iconst 0, 1) := by decide +kernel
theorem dX3_perforateFrom_27 : decode cX3_perforateFrom 27 = .ok (.istore 5, 2) := by decide +kernel
theorem dX3_perforateFrom_29 : decode cX3_perforateFrom 29 = .ok (.iload 5, 2) := by decide +kernel
theorem dX3_perforateFrom_31 : decode cX3_perforateFrom 31 = .ok (.iload 4, 2) := by decide +kernel
theorem dX3_perforateFrom_33 : decode cX3_perforateFrom 33 = .ok (.if_icmp .ge 54, 3) := by decide +kernel
theorem dX3_perforateFrom_36 : decode cX3_perforateFrom 36 = .ok (.aload_n 0, 1) := by decide +kernel
theorem dX3_perforateFrom_37 : decode cX3_perforateFrom 37 = .ok (.getfield 10, 3) := by decide +kernel
theorem dX3_perforateFrom_40 : decode cX3_perforateFrom 40 = .ok (.aload_n 3, 1) := by decide +kernel
theorem dX3_perforateFrom_41 : decode cX3_perforateFrom 41 = .ok (.aload_n 0, 1) := by decide +kernel
theorem dX3_perforateFrom_42 : decode cX3_perforateFrom 42 = .ok (.getfield 19, 3) := by decide +kernel
theorem dX3_perforateFrom_45 : decode cX3_perforateFrom 45 = .ok (.invokevirtual 37, 3) := by decide +kernel
theorem dX3_perforateFrom_48 : decode cX3_perforateFrom 48 = .ok (.aload_n 0, 1) := by decide +kernel
theorem dX3_perforateFrom_49 : decode cX3_perforateFrom 49 = .ok (.dup, 1) := by decide +kernel
theorem dX3_perforateFrom_50 : decode cX3_perforateFrom 50 = .ok (.getfield 31, 3) := by decide +kernel
theorem dX3_perforateFrom_53 : decode cX3_perforateFrom 53 = .ok (.aload_n 0, 1) := by decide +kernel
theorem dX3_perforateFrom_54 : decode cX3_perforateFrom 54 = .ok (.getfield 19, 3) := by decide +kernel
theorem dX3_perforateFrom_57 : decode cX3_perforateFrom 57 = .ok (.iconst 0, 1) := by decide +kernel
theorem dX3_perforateFrom_58 : decode cX3_perforateFrom 58 = .ok (.invokevirtual 41, 3) := by decide +kernel
theorem dX3_perforateFrom_61 : decode cX3_perforateFrom 61 = .ok (.iadd, 1) := by decide +kernel
theorem dX3_perforateFrom_62 : decode cX3_perforateFrom 62 = .ok (.putfield 31, 3) := by decide +kernel
theorem dX3_perforateFrom_65 : decode cX3_perforateFrom 65 = .ok (.aload_n 0, 1) := by decide +kernel
theorem dX3_perforateFrom_66 : decode cX3_perforateFrom 66 = .ok (.dup, 1) := by decide +kernel
theorem dX3_perforateFrom_67 : decode cX3_perforateFrom 67 = .ok (.getfield 34, 3) := by decide +kernel
theorem dX3_perforateFrom_70 : decode cX3_perforateFrom 70 = .ok (.aload_n 0, 1) := by decide +kernel
theorem dX3_perforateFrom_71 : decode cX3_perforateFrom 71 = .ok (.getfield 19, 3) := by decide +kernel
theorem dX3_perforateFrom_74 : decode cX3_perforateFrom 74 = .ok (.invokevirtual 45, 3) := by decide +kernel
theorem dX3_perforateFrom_77 : decode cX3_perforateFrom 77 = .ok (.iadd, 1) := by decide +kernel
theorem dX3_perforateFrom_78 : decode cX3_perforateFrom 78 = .ok (.putfield 34, 3) := by decide +kernel
theorem dX3_perforateFrom_81 : decode cX3_perforateFrom 81 = .ok (.iinc 5 1, 3) := by decide +kernel
theorem dX3_perforateFrom_84 : decode cX3_perforateFrom 84 = .ok (.goto (-55), 3) := by decide +kernel
theorem dX3_perforateFrom_87 : decode cX3_perforateFrom 87 = .ok (.return_, 1) := by decide +kernel
set_option maxRecDepth 20000 in
theorem ggX3_answer_X0_brokenPins : GoodIn wsX3_answer wsX0_brokenPins := goodIn_r _ [8, 9, 10, 11, 12, 13, 14, 15, 16, 21, 22, 23, 24, 25, 26, 27, 28, 29] (by decide +kernel) (by decide +kernel)
set_option maxRecDepth 20000 in
theorem gX3_answer_X0_brokenPins : GoodIn wsX3_answer (wsV RX3 48 RX0 yX0_brokenPins wsX0_brokenPins) := goodIn_app (goodIn_of _ (by decide +kernel)) ggX3_answer_X0_brokenPins
theorem dX3_answer_0 : decode cX3_answer 0 = .ok (.iload_n 1, 1) := by decide +kernel
theorem dX3_answer_1 : decode cX3_answer 1 = .ok (.tableswitch 45 0 2 #[27, 32, 37], 27) := by decide +kernel
theorem dX3_answer_28 : decode cX3_answer 28 = .ok (.aload_n 0, 1) := by decide +kernel
theorem dX3_answer_29 : decode cX3_answer 29 = .ok (.getfield 31, 3) := by decide +kernel
theorem dX3_answer_32 : decode cX3_answer 32 = .ok (.ireturn, 1) := by decide +kernel
theorem dX3_answer_33 : decode cX3_answer 33 = .ok (.aload_n 0, 1) := by decide +kernel
theorem dX3_answer_34 : decode cX3_answer 34 = .ok (.getfield 34, 3) := by decide +kernel
theorem dX3_answer_37 : decode cX3_answer 37 = .ok (.ireturn, 1) := by decide +kernel
theorem dX3_answer_38 : decode cX3_answer 38 = .ok (.aload_n 0, 1) := by decide +kernel
theorem dX3_answer_39 : decode cX3_answer 39 = .ok (.getfield 10, 3) := by decide +kernel
theorem dX3_answer_42 : decode cX3_answer 42 = .ok (.invokevirtual 48, 3) := by decide +kernel
theorem dX3_answer_45 : decode cX3_answer 45 = .ok (.ireturn, 1) := by decide +kernel
theorem dX3_answer_46 : decode cX3_answer 46 = .ok (.aload_n 0, 1) := by decide +kernel
theorem dX3_answer_47 : decode cX3_answer 47 = .ok (.getfield 10, 3) := by decide +kernel
theorem dX3_answer_50 : decode cX3_answer 50 = .ok (.getfield 51, 3) := by decide +kernel
theorem dX3_answer_53 : decode cX3_answer 53 = .ok (.ireturn, 1) := by decide +kernel
set_option maxRecDepth 20000 in
theorem ggX4_init_X0_init : GoodIn wsX4_init wsX0_init := goodIn_r _ [20, 21, 2, 3, 22, 23, 24, 25, 26, 27, 28, 29, 30, 31, 49, 50, 51, 52, 53, 54, 55, 67, 68] (by decide +kernel) (by decide +kernel)
set_option maxRecDepth 20000 in
theorem gX4_init_X0_init : GoodIn wsX4_init (wsX0_init) := ggX4_init_X0_init
set_option maxRecDepth 20000 in
theorem ggX4_init_X3_init : GoodIn wsX4_init wsX3_init := goodIn_r _ [34, 35, 2, 3, 36, 5, 6, 37, 38, 16, 17, 39, 40, 19, 20, 21, 22, 23, 24, 25, 26, 27, 28, 29, 30, 31, 41, 42, 43, 44, 45, 46, 12, 47, 49, 50, 51, 52, 53, 54, 55, 61, 62, 63, 64, 65, 66, 67, 68] (by decide +kernel) (by decide +kernel)
set_option maxRecDepth 20000 in
theorem gX4_init_X3_init : GoodIn wsX4_init (wsX3_init) := ggX4_init_X3_init
set_option maxRecDepth 20000 in
theorem ggX4_init_X2_init : GoodIn wsX4_init wsX2_init := goodIn_r _ [43, 44, 2, 3, 45, 46, 12, 47, 65, 66] (by decide +kernel) (by decide +kernel)
set_option maxRecDepth 20000 in
theorem gX4_init_X2_init : GoodIn wsX4_init (wsX2_init) := ggX4_init_X2_init
theorem dX4_init_0 : decode cX4_init 0 = .ok (.aload_n 0, 1) := by decide +kernel
theorem dX4_init_1 : decode cX4_init 1 = .ok (.invokespecial 3, 3) := by decide +kernel
theorem dX4_init_4 : decode cX4_init 4 = .ok (.aload_n 0, 1) := by decide +kernel
theorem dX4_init_5 : decode cX4_init 5 = .ok (.new 9, 3) := by decide +kernel
theorem dX4_init_8 : decode cX4_init 8 = .ok (.dup, 1) := by decide +kernel
theorem dX4_init_9 : decode cX4_init 9 = .ok (.invokespecial 11, 3) := by decide +kernel
theorem dX4_init_12 : decode cX4_init 12 = .ok (.putfield 12, 3) := by decide +kernel
theorem dX4_init_15 : decode cX4_init 15 = .ok (.aload_n 0, 1) := by decide +kernel
theorem dX4_init_16 : decode cX4_init 16 = .ok (.new 16, 3) := by decide +kernel
theorem dX4_init_19 : decode cX4_init 19 = .ok (.dup, 1) := by decide +kernel
theorem dX4_init_20 : decode cX4_init 20 = .ok (.invokespecial 18, 3) := by decide +kernel
theorem dX4_init_23 : decode cX4_init 23 = .ok (.putfield 19, 3) := by decide +kernel
theorem dX4_init_26 : decode cX4_init 26 = .ok (.aload_n 0, 1) := by decide +kernel
theorem dX4_init_27 : decode cX4_init 27 = .ok (.bipush 30, 2) := by decide +kernel
theorem dX4_init_29 : decode cX4_init 29 = .ok (.newarray .boolean, 2) := by decide +kernel
theorem dX4_init_31 : decode cX4_init 31 = .ok (.putfield 23, 3) := by decide +kernel
theorem dX4_init_34 : decode cX4_init 34 = .ok (.aload_n 0, 1) := by decide +kernel
theorem dX4_init_35 : decode cX4_init 35 = .ok (.bipush 20, 2) := by decide +kernel
theorem dX4_init_37 : decode cX4_init 37 = .ok (.anewarray 27, 3) := by decide +kernel
theorem dX4_init_40 : decode cX4_init 40 = .ok (.putfield 29, 3) := by decide +kernel
theorem dX4_init_43 : decode cX4_init 43 = .ok (.iconst 0, 1) := by decide +kernel
theorem dX4_init_44 : decode cX4_init 44 = .ok (.istore_n 1, 1) := by decide +kernel
theorem dX4_init_45 : decode cX4_init 45 = .ok (.iload_n 1, 1) := by decide +kernel
theorem dX4_init_46 : decode cX4_init 46 = .ok (.bipush 20, 2) := by decide +kernel
theorem dX4_init_48 : decode cX4_init 48 = .ok (.if_icmp .ge 22, 3) := by decide +kernel
theorem dX4_init_51 : decode cX4_init 51 = .ok (.aload_n 0, 1) := by decide +kernel
theorem dX4_init_52 : decode cX4_init 52 = .ok (.getfield 29, 3) := by decide +kernel
theorem dX4_init_55 : decode cX4_init 55 = .ok (.iload_n 1, 1) := by decide +kernel
theorem dX4_init_56 : decode cX4_init 56 = .ok (.new 27, 3) := by decide +kernel
theorem dX4_init_59 : decode cX4_init 59 = .ok (.dup, 1) := by decide +kernel
theorem dX4_init_60 : decode cX4_init 60 = .ok (.invokespecial 33, 3) := by decide +kernel
theorem dX4_init_63 : decode cX4_init 63 = .ok (.aastore, 1) := by decide +kernel
theorem dX4_init_64 : decode cX4_init 64 = .ok (.iinc 1 1, 3) := by decide +kernel
theorem dX4_init_67 : decode cX4_init 67 = .ok (.goto (-22), 3) := by decide +kernel
theorem dX4_init_70 : decode cX4_init 70 = .ok (.return_, 1) := by decide +kernel
set_option maxRecDepth 20000 in
theorem ggX4_setFeed_X4_isWithin : GoodIn wsX4_setFeed wsX4_isWithin := goodIn_r _ [7] (by decide +kernel) (by decide +kernel)
set_option maxRecDepth 20000 in
theorem gX4_setFeed_X4_isWithin : GoodIn wsX4_setFeed (va_wsS RX4 34 yX4_isWithin wsX4_isWithin) := goodIn_app (goodIn_of _ (by decide +kernel)) ggX4_setFeed_X4_isWithin
theorem dX4_setFeed_0 : decode cX4_setFeed 0 = .ok (.iload_n 1, 1) := by decide +kernel
theorem dX4_setFeed_1 : decode cX4_setFeed 1 = .ok (.bipush 10, 2) := by decide +kernel
theorem dX4_setFeed_3 : decode cX4_setFeed 3 = .ok (.bipush 30, 2) := by decide +kernel
theorem dX4_setFeed_5 : decode cX4_setFeed 5 = .ok (.invokestatic 34, 3) := by decide +kernel
theorem dX4_setFeed_8 : decode cX4_setFeed 8 = .ok (.ifCond .eq 14, 3) := by decide +kernel
theorem dX4_setFeed_11 : decode cX4_setFeed 11 = .ok (.iload_n 2, 1) := by decide +kernel
theorem dX4_setFeed_12 : decode cX4_setFeed 12 = .ok (.bipush (-9), 2) := by decide +kernel
theorem dX4_setFeed_14 : decode cX4_setFeed 14 = .ok (.bipush 9, 2) := by decide +kernel
theorem dX4_setFeed_16 : decode cX4_setFeed 16 = .ok (.invokestatic 34, 3) := by decide +kernel
theorem dX4_setFeed_19 : decode cX4_setFeed 19 = .ok (.ifCond .ne 13, 3) := by decide +kernel
theorem dX4_setFeed_22 : decode cX4_setFeed 22 = .ok (.new 38, 3) := by decide +kernel
theorem dX4_setFeed_25 : decode cX4_setFeed 25 = .ok (.dup, 1) := by decide +kernel
theorem dX4_setFeed_26 : decode cX4_setFeed 26 = .ok (.ldc 40, 2) := by decide +kernel
theorem dX4_setFeed_28 : decode cX4_setFeed 28 = .ok (.invokespecial 42, 3) := by decide +kernel
theorem dX4_setFeed_31 : decode cX4_setFeed 31 = .ok (.athrow, 1) := by decide +kernel
theorem dX4_setFeed_32 : decode cX4_setFeed 32 = .ok (.bipush 100, 2) := by decide +kernel
theorem dX4_setFeed_34 : decode cX4_setFeed 34 = .ok (.aload_n 0, 1) := by decide +kernel
theorem dX4_setFeed_35 : decode cX4_setFeed 35 = .ok (.getfield 12, 3) := by decide +kernel
theorem dX4_setFeed_38 : decode cX4_setFeed 38 = .ok (.getfield 45, 3) := by decide +kernel
theorem dX4_setFeed_41 : decode cX4_setFeed 41 = .ok (.imul, 1) := by decide +kernel
theorem dX4_setFeed_42 : decode cX4_setFeed 42 = .ok (.aload_n 0, 1) := by decide +kernel
theorem dX4_setFeed_43 : decode cX4_setFeed 43 = .ok (.getfield 12, 3) := by decide +kernel
theorem dX4_setFeed_46 : decode cX4_setFeed 46 = .ok (.getfield 49, 3) := by decide +kernel
theorem dX4_setFeed_49 : decode cX4_setFeed 49 = .ok (.iadd, 1) := by decide +kernel
theorem dX4_setFeed_50 : decode cX4_setFeed 50 = .ok (.istore_n 3, 1) := by decide +kernel
theorem dX4_setFeed_51 : decode cX4_setFeed 51 = .ok (.aload_n 0, 1) := by decide +kernel
theorem dX4_setFeed_52 : decode cX4_setFeed 52 = .ok (.getfield 12, 3) := by decide +kernel
theorem dX4_setFeed_55 : decode cX4_setFeed 55 = .ok (.iload_n 1, 1) := by decide +kernel
theorem dX4_setFeed_56 : decode cX4_setFeed 56 = .ok (.putfield 45, 3) := by decide +kernel
theorem dX4_setFeed_59 : decode cX4_setFeed 59 = .ok (.aload_n 0, 1) := by decide +kernel
theorem dX4_setFeed_60 : decode cX4_setFeed 60 = .ok (.getfield 12, 3) := by decide +kernel
theorem dX4_setFeed_63 : decode cX4_setFeed 63 = .ok (.iload_n 2, 1) := by decide +kernel
theorem dX4_setFeed_64 : decode cX4_setFeed 64 = .ok (.putfield 49, 3) := by decide +kernel
theorem dX4_setFeed_67 : decode cX4_setFeed 67 = .ok (.iload_n 3, 1) := by decide +kernel
theorem dX4_setFeed_68 : decode cX4_setFeed 68 = .ok (.ireturn, 1) := by decide +kernel
theorem dX4_align_0 : decode cX4_align 0 = .ok (.aload_n 0, 1) := by decide +kernel
theorem dX4_align_1 : decode cX4_align 1 = .ok (.getfield 12, 3) := by decide +kernel
theorem dX4_align_4 : decode cX4_align 4 = .ok (.getfield 52, 3) := by decide +kernel
theorem dX4_align_7 : decode cX4_align 7 = .ok (.istore_n 1, 1) := by decide +kernel
theorem dX4_align_8 : decode cX4_align 8 = .ok (.aload_n 0, 1) := by decide +kernel
theorem dX4_align_9 : decode cX4_align 9 = .ok (.getfield 12, 3) := by decide +kernel
theorem dX4_align_12 : decode cX4_align 12 = .ok (.iconst 0, 1) := by decide +kernel
theorem dX4_align_13 : decode cX4_align 13 = .ok (.putfield 52, 3) := by decide +kernel
theorem dX4_align_16 : decode cX4_align 16 = .ok (.iload_n 1, 1) := by decide +kernel
theorem dX4_align_17 : decode cX4_align 17 = .ok (.ireturn, 1) := by decide +kernel
set_option maxRecDepth 20000 in
theorem ggX4_roll_X4_isWithin : GoodIn wsX4_roll wsX4_isWithin := goodIn_r _ [7] (by decide +kernel) (by decide +kernel)
set_option maxRecDepth 20000 in
theorem gX4_roll_X4_isWithin : GoodIn wsX4_roll (va_wsS RX4 34 yX4_isWithin wsX4_isWithin) := goodIn_app (goodIn_of _ (by decide +kernel)) ggX4_roll_X4_isWithin
theorem dX4_roll_0 : decode cX4_roll 0 = .ok (.iload_n 1, 1) := by decide +kernel
theorem dX4_roll_1 : decode cX4_roll 1 = .ok (.iconst 1, 1) := by decide +kernel
theorem dX4_roll_2 : decode cX4_roll 2 = .ok (.sipush 400, 3) := by decide +kernel
theorem dX4_roll_5 : decode cX4_roll 5 = .ok (.invokestatic 34, 3) := by decide +kernel
theorem dX4_roll_8 : decode cX4_roll 8 = .ok (.ifCond .eq 13, 3) := by decide +kernel
theorem dX4_roll_11 : decode cX4_roll 11 = .ok (.iload_n 2, 1) := by decide +kernel
theorem dX4_roll_12 : decode cX4_roll 12 = .ok (.iconst 1, 1) := by decide +kernel
theorem dX4_roll_13 : decode cX4_roll 13 = .ok (.bipush 9, 2) := by decide +kernel
theorem dX4_roll_15 : decode cX4_roll 15 = .ok (.invokestatic 34, 3) := by decide +kernel
theorem dX4_roll_18 : decode cX4_roll 18 = .ok (.ifCond .ne 13, 3) := by decide +kernel
theorem dX4_roll_21 : decode cX4_roll 21 = .ok (.new 38, 3) := by decide +kernel
theorem dX4_roll_24 : decode cX4_roll 24 = .ok (.dup, 1) := by decide +kernel
theorem dX4_roll_25 : decode cX4_roll 25 = .ok (.ldc 55, 2) := by decide +kernel
theorem dX4_roll_27 : decode cX4_roll 27 = .ok (.invokespecial 42, 3) := by decide +kernel
theorem dX4_roll_30 : decode cX4_roll 30 = .ok (.athrow, 1) := by decide +kernel
theorem dX4_roll_31 : decode cX4_roll 31 = .ok (.aload_n 0, 1) := by decide +kernel
theorem dX4_roll_32 : decode cX4_roll 32 = .ok (.getfield 12, 3) := by decide +kernel
theorem dX4_roll_35 : decode cX4_roll 35 = .ok (.getfield 57, 3) := by decide +kernel
theorem dX4_roll_38 : decode cX4_roll 38 = .ok (.istore_n 3, 1) := by decide +kernel
theorem dX4_roll_39 : decode cX4_roll 39 = .ok (.aload_n 0, 1) := by decide +kernel
theorem dX4_roll_40 : decode cX4_roll 40 = .ok (.getfield 12, 3) := by decide +kernel
theorem dX4_roll_43 : decode cX4_roll 43 = .ok (.iload_n 1, 1) := by decide +kernel
theorem dX4_roll_44 : decode cX4_roll 44 = .ok (.putfield 57, 3) := by decide +kernel
theorem dX4_roll_47 : decode cX4_roll 47 = .ok (.aload_n 0, 1) := by decide +kernel
theorem dX4_roll_48 : decode cX4_roll 48 = .ok (.getfield 12, 3) := by decide +kernel
theorem dX4_roll_51 : decode cX4_roll 51 = .ok (.iconst 0, 1) := by decide +kernel
theorem dX4_roll_52 : decode cX4_roll 52 = .ok (.putfield 60, 3) := by decide +kernel
theorem dX4_roll_55 : decode cX4_roll 55 = .ok (.aload_n 0, 1) := by decide +kernel
theorem dX4_roll_56 : decode cX4_roll 56 = .ok (.getfield 12, 3) := by decide +kernel
theorem dX4_roll_59 : decode cX4_roll 59 = .ok (.iload_n 2, 1) := by decide +kernel
theorem dX4_roll_60 : decode cX4_roll 60 = .ok (.putfield 63, 3) := by decide +kernel
theorem dX4_roll_63 : decode cX4_roll 63 = .ok (.iload_n 3, 1) := by decide +kernel
theorem dX4_roll_64 : decode cX4_roll 64 = .ok (.ireturn, 1) := by decide +kernel
set_option maxRecDepth 20000 in
theorem ggX4_fit_X4_checkPin : GoodIn wsX4_fit wsX4_checkPin := goodIn_ca (goodIn_r _ [7, 8, 9, 10, 11, 6, 12] (by decide +kernel) (by decide +kernel)) (goodIn_sub (fun _ h => List.mem_cons_of_mem _ (List.mem_append_right _ h)) (by decide +kernel))
set_option maxRecDepth 20000 in
theorem gX4_fit_X4_checkPin : GoodIn wsX4_fit (va_wsS RX4 66 yX4_checkPin wsX4_checkPin) := goodIn_app (goodIn_of _ (by decide +kernel)) ggX4_fit_X4_checkPin
set_option maxRecDepth 20000 in
theorem ggX4_fit_X4_isWithin : GoodIn wsX4_fit wsX4_isWithin := goodIn_r _ [12] (by decide +kernel) (by decide +kernel)
set_option maxRecDepth 20000 in
theorem gX4_fit_X4_isWithin : GoodIn wsX4_fit (va_wsS RX4 34 yX4_isWithin wsX4_isWithin) := goodIn_app (goodIn_of _ (by decide +kernel)) ggX4_fit_X4_isWithin
theorem dX4_fit_0 : decode cX4_fit 0 = .ok (.iload_n 1, 1) := by decide +kernel
theorem dX4_fit_1 : decode cX4_fit 1 = .ok (.invokestatic 66, 3) := by decide +kernel
theorem dX4_fit_4 : decode cX4_fit 4 = .ok (.iload_n 2, 1) := by decide +kernel
theorem dX4_fit_5 : decode cX4_fit 5 = .ok (.iconst 1, 1) := by decide +kernel
theorem dX4_fit_6 : decode cX4_fit 6 = .ok (.sipush 500, 3) := by decide +kernel
theorem dX4_fit_9 : decode cX4_fit 9 = .ok (.invokestatic 34, 3) := by decide +kernel
theorem dX4_fit_12 : decode cX4_fit 12 = .ok (.ifCond .ne 13, 3) := by decide +kernel
theorem dX4_fit_15 : decode cX4_fit 15 = .ok (.new 38, 3) := by decide +kernel
theorem dX4_fit_18 : decode cX4_fit 18 = .ok (.dup, 1) := by decide +kernel
theorem dX4_fit_19 : decode cX4_fit 19 = .ok (.ldc 70, 2) := by decide +kernel
theorem dX4_fit_21 : decode cX4_fit 21 = .ok (.invokespecial 42, 3) := by decide +kernel
theorem dX4_fit_24 : decode cX4_fit 24 = .ok (.athrow, 1) := by decide +kernel
theorem dX4_fit_25 : decode cX4_fit 25 = .ok (.aload_n 0, 1) := by decide +kernel
theorem dX4_fit_26 : decode cX4_fit 26 = .ok (.getfield 12, 3) := by decide +kernel
theorem dX4_fit_29 : decode cX4_fit 29 = .ok (.getfield 72, 3) := by decide +kernel
theorem dX4_fit_32 : decode cX4_fit 32 = .ok (.iload_n 1, 1) := by decide +kernel
theorem dX4_fit_33 : decode cX4_fit 33 = .ok (.aaload, 1) := by decide +kernel
theorem dX4_fit_34 : decode cX4_fit 34 = .ok (.astore_n 3, 1) := by decide +kernel
theorem dX4_fit_35 : decode cX4_fit 35 = .ok (.aload_n 3, 1) := by decide +kernel
theorem dX4_fit_36 : decode cX4_fit 36 = .ok (.getfield 76, 3) := by decide +kernel
theorem dX4_fit_39 : decode cX4_fit 39 = .ok (.istore 4, 2) := by decide +kernel
theorem dX4_fit_41 : decode cX4_fit 41 = .ok (.aload_n 3, 1) := by decide +kernel
theorem dX4_fit_42 : decode cX4_fit 42 = .ok (.iload_n 2, 1) := by decide +kernel
theorem dX4_fit_43 : decode cX4_fit 43 = .ok (.putfield 81, 3) := by decide +kernel
theorem dX4_fit_46 : decode cX4_fit 46 = .ok (.aload_n 3, 1) := by decide +kernel
theorem dX4_fit_47 : decode cX4_fit 47 = .ok (.iconst 0, 1) := by decide +kernel
theorem dX4_fit_48 : decode cX4_fit 48 = .ok (.putfield 76, 3) := by decide +kernel
theorem dX4_fit_51 : decode cX4_fit 51 = .ok (.iload 4, 2) := by decide +kernel
theorem dX4_fit_53 : decode cX4_fit 53 = .ok (.ireturn, 1) := by decide +kernel
set_option maxRecDepth 20000 in
theorem ggX4_turn_X4_checkPlace : GoodIn wsX4_turn wsX4_checkPlace := goodIn_ca (goodIn_r _ [5, 6, 7, 8, 9, 4, 10] (by decide +kernel) (by decide +kernel)) (goodIn_sub (fun _ h => List.mem_cons_of_mem _ (List.mem_append_right _ h)) (by decide +kernel))
set_option maxRecDepth 20000 in
theorem gX4_turn_X4_checkPlace : GoodIn wsX4_turn (va_wsS RX4 84 yX4_checkPlace wsX4_checkPlace) := goodIn_app (goodIn_of _ (by decide +kernel)) ggX4_turn_X4_checkPlace
theorem dX4_turn_0 : decode cX4_turn 0 = .ok (.iload_n 1, 1) := by decide +kernel
theorem dX4_turn_1 : decode cX4_turn 1 = .ok (.iload_n 2, 1) := by decide +kernel
theorem dX4_turn_2 : decode cX4_turn 2 = .ok (.invokestatic 84, 3) := by decide +kernel
theorem dX4_turn_5 : decode cX4_turn 5 = .ok (.bipush 6, 2) := by decide +kernel
theorem dX4_turn_7 : decode cX4_turn 7 = .ok (.iload_n 1, 1) := by decide +kernel
theorem dX4_turn_8 : decode cX4_turn 8 = .ok (.imul, 1) := by decide +kernel
theorem dX4_turn_9 : decode cX4_turn 9 = .ok (.iload_n 2, 1) := by decide +kernel
theorem dX4_turn_10 : decode cX4_turn 10 = .ok (.iadd, 1) := by decide +kernel
theorem dX4_turn_11 : decode cX4_turn 11 = .ok (.istore_n 3, 1) := by decide +kernel
theorem dX4_turn_12 : decode cX4_turn 12 = .ok (.aload_n 0, 1) := by decide +kernel
theorem dX4_turn_13 : decode cX4_turn 13 = .ok (.getfield 23, 3) := by decide +kernel
theorem dX4_turn_16 : decode cX4_turn 16 = .ok (.iload_n 3, 1) := by decide +kernel
theorem dX4_turn_17 : decode cX4_turn 17 = .ok (.aload_n 0, 1) := by decide +kernel
theorem dX4_turn_18 : decode cX4_turn 18 = .ok (.getfield 23, 3) := by decide +kernel
theorem dX4_turn_21 : decode cX4_turn 21 = .ok (.iload_n 3, 1) := by decide +kernel
theorem dX4_turn_22 : decode cX4_turn 22 = .ok (.baload, 1) := by decide +kernel
theorem dX4_turn_23 : decode cX4_turn 23 = .ok (.ifCond .ne 7, 3) := by decide +kernel
theorem dX4_turn_26 : decode cX4_turn 26 = .ok (.iconst 1, 1) := by decide +kernel
theorem dX4_turn_27 : decode cX4_turn 27 = .ok (.goto 4, 3) := by decide +kernel
theorem dX4_turn_30 : decode cX4_turn 30 = .ok (.iconst 0, 1) := by decide +kernel
theorem dX4_turn_31 : decode cX4_turn 31 = .ok (.bastore, 1) := by decide +kernel
theorem dX4_turn_32 : decode cX4_turn 32 = .ok (.aload_n 0, 1) := by decide +kernel
theorem dX4_turn_33 : decode cX4_turn 33 = .ok (.getfield 23, 3) := by decide +kernel
theorem dX4_turn_36 : decode cX4_turn 36 = .ok (.iload_n 3, 1) := by decide +kernel
theorem dX4_turn_37 : decode cX4_turn 37 = .ok (.baload, 1) := by decide +kernel
theorem dX4_turn_38 : decode cX4_turn 38 = .ok (.ireturn, 1) := by decide +kernel
set_option maxRecDepth 20000 in
theorem ggX4_run_X0_perforate : GoodIn wsX4_run wsX0_perforate := goodIn_r _ [11, 12, 13, 14, 15, 16, 17, 18, 19, 20, 21, 22, 23, 24, 25, 26, 10, 27, 28, 29, 30, 31, 32, 33, 34, 35, 36, 37, 38, 39, 40, 41, 42, 43, 44, 45, 46, 47, 48, 49, 50, 51, 52, 53, 54, 55, 56, 62, 63, 64, 65, 66, 67, 68, 69, 70, 71, 72] (by decide +kernel) (by decide +kernel)
set_option maxRecDepth 20000 in
theorem gX4_run_X0_perforate : GoodIn wsX4_run (wsV RX4 96 RX0 yX0_perforate wsX0_perforate) := goodIn_app (goodIn_of _ (by decide +kernel)) ggX4_run_X0_perforate
theorem dX4_run_0 : decode cX4_run 0 = .ok (.aload_n 0, 1) := by decide +kernel
theorem dX4_run_1 : decode cX4_run 1 = .ok (.getfield 88, 3) := by decide +kernel
theorem dX4_run_4 : decode cX4_run 4 = .ok (.bipush 20, 2) := by decide +kernel
theorem dX4_run_6 : decode cX4_run 6 = .ok (.if_icmp .ge 14, 3) := by decide +kernel
theorem dX4_run_9 : decode cX4_run 9 = .ok (.aload_n 0, 1) := by decide +kernel
theorem dX4_run_10 : decode cX4_run 10 = .ok (.getfield 12, 3) := by decide +kernel
theorem dX4_run_13 : decode cX4_run 13 = .ok (.getfield 57, 3) := by decide +kernel
theorem dX4_run_16 : decode cX4_run 16 = .ok (.iconst 5, 1) := by decide +kernel
theorem dX4_run_17 : decode cX4_run 17 = .ok (.if_icmp .ge 13, 3) := by decide +kernel
theorem dX4_run_20 : decode cX4_run 20 = .ok (.new 91, 3) := by decide +kernel
theorem dX4_run_23 : decode cX4_run 23 = .ok (.dup, 1) := by decide +kernel
theorem dX4_run_24 : decode cX4_run 24 = .ok (.ldc 93, 2) := by decide +kernel
theorem dX4_run_26 : decode cX4_run 26 = .ok (.invokespecial 95, 3) := by decide +kernel
