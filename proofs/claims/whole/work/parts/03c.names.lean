theorem dX3_answer_1 : decode cX3_answer 1 = .ok (.tableswitch 45 0 2 #[27, 32, 37], 27) := by decide +kernel
theorem dX3_answer_28 : decode cX3_answer 28 = .ok (.aload_n 0, 1) := by decide +kernel
theorem dX3_answer_29 : decode cX3_answer 29 = .ok (.getfield 31, 3) := by decide +kernel
theorem dX3_answer_32 : decode cX3_answer 32 = .ok (.ireturn, 1) := by decide +kernel
theorem dX3_answer_33 : decode cX3_answer 33 = .ok (.aload_n 0, 1) := by decide +kernel
theorem dX3_answer_34 : decode cX3_answer 34 = .ok (.getfield 34, 3) := by decide +kernel
theorem dX3_answer_37 : decode cX3_answer 37 = .ok (.ireturn, 1) := by decide +kernel
theorem dX3_answer_38 : decode cX3_answer 38 = .ok (.aload_n 0, 1) := by decide +kernel
theorem dX3_answer_39 : decode cX3_answer 39 = .ok (.getfield 10, 3) := by decide +kernel
theorem dX3_answer_42 : decode cX3_answer 42 = .ok (.invokevirtual 48, 3) := by decide +kernel
theorem dX3_answer_45 : decode cX3_answer 45 = .ok (.ireturn, 1) := by decide +kernel
theorem dX3_answer_46 : decode cX3_answer 46 = .ok (.aload_n 0, 1) := by decide +kernel
theorem dX3_answer_47 : decode cX3_answer 47 = .ok (.getfield 10, 3) := by decide +kernel
theorem dX3_answer_50 : decode cX3_answer 50 = .ok (.getfield 51, 3) := by decide +kernel
theorem dX3_answer_53 : decode cX3_answer 53 = .ok (.ireturn, 1) := by decide +kernel
set_option maxRecDepth 20000 in
theorem ggX4_init_X0_init : GoodIn wsX4_init wsX0_init := goodIn_r _ [20, 21, 2, 3, 22, 23, 24, 25, 26, 27, 28, 29, 30, 31, 49, 50, 51, 52, 53, 54, 55, 67, 68] (by decide +kernel) (by decide +kernel)
set_option maxRecDepth 20000 in
theorem gX4_init_X0_init : GoodIn wsX4_init (wsX0_init) := ggX4_init_X0_init
set_option maxRecDepth 20000 in
theorem ggX4_init_X3_init : GoodIn wsX4_init wsX3_init := goodIn_r _ [34, 35, 2, 3, 36, 5, 6, 37, 38, 16, 17, 39, 40, 19, 20, 21, 22, 23, 24, 25, 26, 27, 28, 29, 30, 31, 41, 42, 43, 44, 45, 46, 12, 47, 49, 50, 51, 52, 53, 54, 55, 61, 62, 63, 64, 65, 66, 67, 68] (by decide +kernel) (by decide +kernel)
set_option maxRecDepth 20000 in
theorem gX4_init_X3_init : GoodIn wsX4_init (wsX3_init) := ggX4_init_X3_init
set_option maxRecDepth 20000 in
theorem ggX4_init_X2_init : GoodIn wsX4_init wsX2_init := goodIn_r _ [43, 44, 2, 3, 45, 46, 12, 47, 65, 66] (by decide +kernel) (by decide +kernel)
set_option maxRecDepth 20000 in
theorem gX4_init_X2_init : GoodIn wsX4_init (wsX2_init) := ggX4_init_X2_init
theorem dX4_init_0 : decode cX4_init 0 = .ok (.aload_n 0, 1) := by decide +kernel
theorem dX4_init_1 : decode cX4_init 1 = .ok (.invokespecial 3, 3) := by decide +kernel
theorem dX4_init_4 : decode cX4_init 4 = .ok (.aload_n 0, 1) := by decide +kernel
theorem dX4_init_5 : decode cX4_init 5 = .ok (.new 9, 3) := by decide +kernel
theorem dX4_init_8 : decode cX4_init 8 = .ok (.dup, 1) := by decide +kernel
theorem dX4_init_9 : decode cX4_init 9 = .ok (.invokespecial 11, 3) := by decide +kernel
theorem dX4_init_12 : decode cX4_init 12 = .ok (.putfield 12, 3) := by decide +kernel
theorem dX4_init_15 : decode cX4_init 15 = .ok (.aload_n 0, 1) := by decide +kernel
theorem dX4_init_16 : decode cX4_init 16 = .ok (.new 16, 3) := by decide +kernel
theorem dX4_init_19 : decode cX4_init 19 = .ok (.dup, 1) := by decide +kernel
theorem dX4_init_20 : decode cX4_init 20 = .ok (.invokespecial 18, 3) := by decide +kernel
theorem dX4_init_23 : decode cX4_init 23 = .ok (.putfield 19, 3) := by decide +kernel
theorem dX4_init_26 : decode cX4_init 26 = .ok (.aload_n 0, 1) := by decide +kernel
theorem dX4_init_27 : decode cX4_init 27 = .ok (.bipush 30, 2) := by decide +kernel
theorem dX4_init_29 : decode cX4_init 29 = .ok (.newarray .boolean, 2) := by decide +kernel
theorem dX4_init_31 : decode cX4_init 31 = .ok (.putfield 23, 3) := by decide +kernel
theorem dX4_init_34 : decode cX4_init 34 = .ok (.aload_n 0, 1) := by decide +kernel
theorem dX4_init_35 : decode cX4_init 35 = .ok (.bipush 20, 2) := by decide +kernel
theorem dX4_init_37 : decode cX4_init 37 = .ok (.anewarray 27, 3) := by decide +kernel
theorem dX4_init_40 : decode cX4_init 40 = .ok (.putfield 29, 3) := by decide +kernel
theorem dX4_init_43 : decode cX4_init 43 = .ok (.iconst 0, 1) := by decide +kernel
theorem dX4_init_44 : decode cX4_init 44 = .ok (.istore_n 1, 1) := by decide +kernel
theorem dX4_init_45 : decode cX4_init 45 = .ok (.iload_n 1, 1) := by decide +kernel
theorem dX4_init_46 : decode cX4_init 46 = .ok (.bipush 20, 2) := by decide +kernel
theorem dX4_init_48 : decode cX4_init 48 = .ok (.if_icmp .ge 22, 3) := by decide +kernel
theorem dX4_init_51 : decode cX4_init 51 = .ok (.aload_n 0, 1) := by decide +kernel
theorem dX4_init_52 : decode cX4_init 52 = .ok (.getfield 29, 3) := by decide +kernel
theorem dX4_init_55 : decode cX4_init 55 = .ok (.iload_n 1, 1) := by decide +kernel
theorem dX4_init_56 : decode cX4_init 56 = .ok (.new 27, 3) := by decide +kernel
theorem dX4_init_59 : decode cX4_init 59 = .ok (.dup, 1) := by decide +kernel
theorem dX4_init_60 : decode cX4_init 60 = .ok (.invokespecial 33, 3) := by decide +kernel
theorem dX4_init_63 : decode cX4_init 63 = .ok (.aastore, 1) := by decide +kernel
theorem dX4_init_64 : decode cX4_init 64 = .ok (.iinc 1 1, 3) := by decide +kernel
theorem dX4_init_67 : decode cX4_init 67 = .ok (.goto (-22), 3) := by decide +kernel
theorem dX4_init_70 : decode cX4_init 70 = .ok (.return_, 1) := by decide +kernel
set_option maxRecDepth 20000 in
theorem ggX4_setFeed_X4_isWithin : GoodIn wsX4_setFeed wsX4_isWithin := goodIn_r _ [7] (by decide +kernel) (by decide +kernel)
set_option maxRecDepth 20000 in
theorem gX4_setFeed_X4_isWithin : GoodIn wsX4_setFeed (va_wsS RX4 34 yX4_isWithin wsX4_isWithin) := goodIn_app (goodIn_of _ (by decide +kernel)) ggX4_setFeed_X4_isWithin
theorem dX4_setFeed_0 : decode cX4_setFeed 0 = .ok (.iload_n 1, 1) := by decide +kernel
theorem dX4_setFeed_1 : decode cX4_setFeed 1 = .ok (.bipush 10, 2) := by decide +kernel
theorem dX4_setFeed_3 : decode cX4_setFeed 3 = .ok (.bipush 30, 2) := by decide +kernel
theorem dX4_setFeed_5 : decode cX4_setFeed 5 = .ok (.invokestatic 34, 3) := by decide +kernel
theorem dX4_setFeed_8 : decode cX4_setFeed 8 = .ok (.ifCond .eq 14, 3) := by decide +kernel
theorem dX4_setFeed_11 : decode cX4_setFeed 11 = .ok (.iload_n 2, 1) := by decide +kernel
theorem dX4_setFeed_12 : decode cX4_setFeed 12 = .ok (.bipush (-9), 2) := by decide +kernel
theorem dX4_setFeed_14 : decode cX4_setFeed 14 = .ok (.bipush 9, 2) := by decide +kernel
theorem dX4_setFeed_16 : decode cX4_setFeed 16 = .ok (.invokestatic 34, 3) := by decide +kernel
theorem dX4_setFeed_19 : decode cX4_setFeed 19 = .ok (.ifCond .ne 13, 3) := by decide +kernel
theorem dX4_setFeed_22 : decode cX4_setFeed 22 = .ok (.new 38, 3) := by decide +kernel
theorem dX4_setFeed_25 : decode cX4_setFeed 25 = .ok (.dup, 1) := by decide +kernel
theorem dX4_setFeed_26 : decode cX4_setFeed 26 = .ok (.ldc 40, 2) := by decide +kernel
theorem dX4_setFeed_28 : decode cX4_setFeed 28 = .ok (.invokespecial 42, 3) := by decide +kernel
theorem dX4_setFeed_31 : decode cX4_setFeed 31 = .ok (.athrow, 1) := by decide +kernel
theorem dX4_setFeed_32 : decode cX4_setFeed 32 = .ok (.bipush 100, 2) := by decide +kernel
theorem dX4_setFeed_34 : decode cX4_setFeed 34 = .ok (.aload_n 0, 1) := by decide +kernel
theorem dX4_setFeed_35 : decode cX4_setFeed 35 = .ok (.getfield 12, 3) := by decide +kernel
theorem dX4_setFeed_38 : decode cX4_setFeed 38 = .ok (.getfield 45, 3) := by decide +kernel
theorem dX4_setFeed_41 : decode cX4_setFeed 41 = .ok (.imul, 1) := by decide +kernel
theorem dX4_setFeed_42 : decode cX4_setFeed 42 = .ok (.aload_n 0, 1) := by decide +kernel
theorem dX4_setFeed_43 : decode cX4_setFeed 43 = .ok (.getfield 12, 3) := by decide +kernel
theorem dX4_setFeed_46 : decode cX4_setFeed 46 = .ok (.getfield 49, 3) := by decide +kernel
theorem dX4_setFeed_49 : decode cX4_setFeed 49 = .ok (.iadd, 1) := by decide +kernel
theorem dX4_setFeed_50 : decode cX4_setFeed 50 = .ok (.istore_n 3, 1) := by decide +kernel
theorem dX4_setFeed_51 : decode cX4_setFeed 51 = .ok (.aload_n 0, 1) := by decide +kernel
theorem dX4_setFeed_52 : decode cX4_setFeed 52 = .ok (.getfield 12, 3) := by decide +kernel
theorem dX4_setFeed_55 : decode cX4_setFeed 55 = .ok (.iload_n 1, 1) := by decide +kernel
theorem dX4_setFeed_56 : decode cX4_setFeed 56 = .ok (.putfield 45, 3) := by decide +kernel
theorem dX4_setFeed_59 : decode cX4_setFeed 59 = .ok (.aload_n 0, 1) := by decide +kernel
theorem dX4_setFeed_60 : decode cX4_setFeed 60 = .ok (.getfield 12, 3) := by decide +kernel
theorem dX4_setFeed_63 : decode cX4_setFeed 63 = .ok (.iload_n 2, 1) := by decide +kernel
theorem dX4_setFeed_64 : decode cX4_setFeed 64 = .ok (.putfield 49, 3) := by decide +kernel
theorem dX4_setFeed_67 : decode cX4_setFeed 67 = .ok (.iload_n 3, 1) := by decide +kernel
theorem dX4_setFeed_68 : decode cX4_setFeed 68 = .ok (.ireturn, 1) := by decide +kernel
theorem dX4_align_0 : decode cX4_align 0 = .ok (.aload_n 0, 1) := by decide +kernel
theorem dX4_align_1 : decode cX4_align 1 = .ok (.getfield 12, 3) := by decide +kernel
theorem dX4_align_4 : decode cX4_align 4 = .ok (.getfield 52, 3) := by decide +kernel
theorem dX4_align_7 : decode cX4_align 7 = .ok (.istore_n 1, 1) := by decide +kernel
theorem dX4_align_8 : decode cX4_align 8 = .ok (.aload_n 0, 1) := by decide +kernel
theorem dX4_align_9 : decode cX4_align 9 = .ok (.getfield 12, 3) := by decide +kernel
theorem dX4_align_12 : decode cX4_align 12 = .ok (.iconst 0, 1) := by decide +kernel
theorem dX4_align_13 : decode cX4_align 13 = .ok (.putfield 52, 3) := by decide +kernel
theorem dX4_align_16 : decode cX4_align 16 = .ok (.iload_n 1, 1) := by decide +kernel
theorem dX4_align_17 : decode cX4_align 17 = .ok (.ireturn, 1) := by decide +kernel
set_option maxRecDepth 20000 in
theorem ggX4_roll_X4_isWithin : GoodIn wsX4_roll wsX4_isWithin := goodIn_r _ [7] (by decide +kernel) (by decide +kernel)
set_option maxRecDepth 20000 in
theorem gX4_roll_X4_isWithin : GoodIn wsX4_roll (va_wsS RX4 34 yX4_isWithin wsX4_isWithin) := goodIn_app (goodIn_of _ (by decide +kernel)) ggX4_roll_X4_isWithin
theorem dX4_roll_0 : decode cX4_roll 0 = .ok (.iload_n 1, 1) := by decide +kernel
theorem dX4_roll_1 : decode cX4_roll 1 = .ok (.iconst 1, 1) := by decide +kernel
theorem dX4_roll_2 : decode cX4_roll 2 = .ok (.sipush 400, 3) := by decide +kernel
theorem dX4_roll_5 : decode cX4_roll 5 = .ok (.invokestatic 34, 3) := by decide +kernel
theorem dX4_roll_8 : decode cX4_roll 8 = .ok (.ifCond .eq 13, 3) := by decide +kernel
theorem dX4_roll_11 : decode cX4_roll 11 = .ok (.iload_n 2, 1) := by decide +kernel
theorem dX4_roll_12 : decode cX4_roll 12 = .ok (.iconst 1, 1) := by decide +kernel
theorem dX4_roll_13 : decode cX4_roll 13 = .ok (.bipush 9, 2) := by decide +kernel
theorem dX4_roll_15 : decode cX4_roll 15 = .ok (.invokestatic 34, 3) := by decide +kernel
theorem dX4_roll_18 : decode cX4_roll 18 = .ok (.ifCond .ne 13, 3) := by decide +kernel
theorem dX4_roll_21 : decode cX4_roll 21 = .ok (.new 38, 3) := by decide +kernel
theorem dX4_roll_24 : decode cX4_roll 24 = .ok (.dup, 1) := by decide +kernel
theorem dX4_roll_25 : decode cX4_roll 25 = .ok (.ldc 55, 2) := by decide +kernel
theorem dX4_roll_27 : decode cX4_roll 27 = .ok (.invokespecial 42, 3) := by decide +kernel
theorem dX4_roll_30 : decode cX4_roll 30 = .ok (.athrow, 1) := by decide +kernel
theorem dX4_roll_31 : decode cX4_roll 31 = .ok (.aload_n 0, 1) := by decide +kernel
theorem dX4_roll_32 : decode cX4_roll 32 = .ok (.getfield 12, 3) := by decide +kernel
theorem dX4_roll_35 : decode cX4_roll 35 = .ok (.getfield 57, 3) := by decide +kernel
theorem dX4_roll_38 : decode cX4_roll 38 = .ok (.istore_n 3, 1) := by decide +kernel
theorem dX4_roll_39 : decode cX4_roll 39 = .ok (.aload_n 0, 1) := by decide +kernel
theorem dX4_roll_40 : decode cX4_roll 40 = .ok (.getfield 12, 3) := by decide +kernel
theorem dX4_roll_43 : decode cX4_roll 43 = .ok (.iload_n 1, 1) := by decide +kernel
theorem dX4_roll_44 : decode cX4_roll 44 = .ok (.putfield 57, 3) := by decide +kernel
theorem dX4_roll_47 : decode cX4_roll 47 = .ok (.aload_n 0, 1) := by decide +kernel
theorem dX4_roll_48 : decode cX4_roll 48 = .ok (.getfield 12, 3) := by decide +kernel
theorem dX4_roll_51 : decode cX4_roll 51 = .ok (.iconst 0, 1) := by decide +kernel
theorem dX4_roll_52 : decode cX4_roll 52 = .ok (.putfield 60, 3) := by decide +kernel
theorem dX4_roll_55 : decode cX4_roll 55 = .ok (.aload_n 0, 1) := by decide +kernel
theorem dX4_roll_56 : decode cX4_roll 56 = .ok (.getfield 12, 3) := by decide +kernel
theorem dX4_roll_59 : decode cX4_roll 59 = .ok (.iload_n 2, 1) := by decide +kernel
theorem dX4_roll_60 : decode cX4_roll 60 = .ok (.putfield 63, 3) := by decide +kernel
theorem dX4_roll_63 : decode cX4_roll 63 = .ok (.iload_n 3, 1) := by decide +kernel
theorem dX4_roll_64 : decode cX4_roll 64 = .ok (.ireturn, 1) := by decide +kernel
set_option maxRecDepth 20000 in
theorem ggX4_fit_X4_checkPin : GoodIn wsX4_fit wsX4_checkPin := goodIn_ca (goodIn_r _ [7, 8, 9, 10, 11, 6, 12] (by decide +kernel) (by decide +kernel)) (goodIn_sub (fun _ h => List.mem_cons_of_mem _ (List.mem_append_right _ h)) (by decide +kernel))
set_option maxRecDepth 20000 in
theorem gX4_fit_X4_checkPin : GoodIn wsX4_fit (va_wsS RX4 66 yX4_checkPin wsX4_checkPin) := goodIn_app (goodIn_of _ (by decide +kernel)) ggX4_fit_X4_checkPin
set_option maxRecDepth 20000 in
theorem ggX4_fit_X4_isWithin : GoodIn wsX4_fit wsX4_isWithin := goodIn_r _ [12] (by decide +kernel) (by decide +kernel)
set_option maxRecDepth 20000 in
theorem gX4_fit_X4_isWithin : GoodIn wsX4_fit (va_wsS RX4 34 yX4_isWithin wsX4_isWithin) := goodIn_app (goodIn_of _ (by decide +kernel)) ggX4_fit_X4_isWithin
theorem dX4_fit_0 : decode cX4_fit 0 = .ok (.iload_n 1, 1) := by decide +kernel
theorem dX4_fit_1 : decode cX4_fit 1 = .ok (.invokestatic 66, 3) := by decide +kernel
theorem dX4_fit_4 : decode cX4_fit 4 = .ok (.iload_n 2, 1) := by decide +kernel
theorem dX4_fit_5 : decode cX4_fit 5 = .ok (.iconst 1, 1) := by decide +kernel
theorem dX4_fit_6 : decode cX4_fit 6 = .ok (.sipush 500, 3) := by decide +kernel
theorem dX4_fit_9 : decode cX4_fit 9 = .ok (.invokestatic 34, 3) := by decide +kernel
theorem dX4_fit_12 : decode cX4_fit 12 = .ok (.ifCond .ne 13, 3) := by decide +kernel
theorem dX4_fit_15 : decode cX4_fit 15 = .ok (.new 38, 3) := by decide +kernel
theorem dX4_fit_18 : decode cX4_fit 18 = .ok (.dup, 1) := by decide +kernel
theorem dX4_fit_19 : decode cX4_fit 19 = .ok (.ldc 70, 2) := by decide +kernel
theorem dX4_fit_21 : decode cX4_fit 21 = .ok (.invokespecial 42, 3) := by decide +kernel
theorem dX4_fit_24 : decode cX4_fit 24 = .ok (.athrow, 1) := by decide +kernel
theorem dX4_fit_25 : decode cX4_fit 25 = .ok (.aload_n 0, 1) := by decide +kernel
theorem dX4_fit_26 : decode cX4_fit 26 = .ok (.getfield 12, 3) := by decide +kernel
theorem dX4_fit_29 : decode cX4_fit 29 = .ok (.getfield 72, 3) := by decide +kernel
theorem dX4_fit_32 : decode cX4_fit 32 = .ok (.iload_n 1, 1) := by decide +kernel
theorem dX4_fit_33 : decode cX4_fit 33 = .ok (.aaload, 1) := by decide +kernel
theorem dX4_fit_34 : decode cX4_fit 34 = .ok (.astore_n 3, 1) := by decide +kernel
theorem dX4_fit_35 : decode cX4_fit 35 = .ok (.aload_n 3, 1) := by decide +kernel
theorem dX4_fit_36 : decode cX4_fit 36 = .ok (.getfield 76, 3) := by decide +kernel
theorem dX4_fit_39 : decode cX4_fit 39 = .ok (.istore 4, 2) := by decide +kernel
theorem dX4_fit_41 : decode cX4_fit 41 = .ok (.aload_n 3, 1) := by decide +kernel
theorem dX4_fit_42 : decode cX4_fit 42 = .ok (.iload_n 2, 1) := by decide +kernel
theorem dX4_fit_43 : decode cX4_fit 43 = .ok (.putfield 81, 3) := by decide +kernel
theorem dX4_fit_46 : decode cX4_fit 46 = .ok (.aload_n 3, 1) := by decide +kernel
theorem dX4_fit_47 : decode cX4_fit 47 = .ok (.iconst 0, 1) := by decide +kernel
theorem dX4_fit_48 : decode cX4_fit 48 = .ok (.putfield 76, 3) := by decide +kernel
theorem dX4_fit_51 : decode cX4_fit 51 = .ok (.iload 4, 2) := by decide +kernel
theorem dX4_fit_53 : decode cX4_fit 53 = .ok (.ireturn, 1) := by decide +kernel
set_option maxRecDepth 20000 in
theorem ggX4_turn_X4_checkPlace : GoodIn wsX4_turn wsX4_checkPlace := goodIn_ca (goodIn_r _ [5, 6, 7, 8, 9, 4, 10] (by decide +kernel) (by decide +kernel)) (goodIn_sub (fun _ h => List.mem_cons_of_mem _ (List.mem_append_right _ h)) (by decide +kernel))
set_option maxRecDepth 20000 in
theorem gX4_turn_X4_checkPlace : GoodIn wsX4_turn (va_wsS RX4 84 yX4_checkPlace wsX4_checkPlace) := goodIn_app (goodIn_of _ (by decide +kernel)) ggX4_turn_X4_checkPlace
theorem dX4_turn_0 : decode cX4_turn 0 = .ok (.iload_n 1, 1) := by decide +kernel
theorem dX4_turn_1 : decode cX4_turn 1 = .ok (.iload_n 2, 1) := by decide +kernel
theorem dX4_turn_2 : decode cX4_turn 2 = .ok (.invokestatic 84, 3) := by decide +kernel
theorem dX4_turn_5 : decode cX4_turn 5 = .ok (.bipush 6, 2) := by decide +kernel
theorem dX4_turn_7 : decode cX4_turn 7 = .ok (.iload_n 1, 1) := by decide +kernel
theorem dX4_turn_8 : decode cX4_turn 8 = .ok (.imul, 1) := by decide +kernel
theorem dX4_turn_9 : decode cX4_turn 9 = .ok (.iload_n 2, 1) := by decide +kernel
theorem dX4_turn_10 : decode cX4_turn 10 = .ok (.iadd, 1) := by decide +kernel
theorem dX4_turn_11 : decode cX4_turn 11 = .ok (.istore_n 3, 1) := by decide +kernel
theorem dX4_turn_12 : decode cX4_turn 12 = .ok (.aload_n 0, 1) := by decide +kernel
theorem dX4_turn_13 : decode cX4_turn 13 = .ok (.getfield 23, 3) := by decide +kernel
theorem dX4_turn_16 : decode cX4_turn 16 = .ok (.iload_n 3, 1) := by decide +kernel
theorem dX4_turn_17 : decode cX4_turn 17 = .ok (.aload_n 0, 1) := by decide +kernel
theorem dX4_turn_18 : decode cX4_turn 18 = .ok (.getfield 23, 3) := by decide +kernel
theorem dX4_turn_21 : decode cX4_turn 21 = .ok (.iload_n 3, 1) := by decide +kernel
theorem dX4_turn_22 : decode cX4_turn 22 = .ok (.baload, 1) := by decide +kernel
theorem dX4_turn_23 : decode cX4_turn 23 = .ok (.ifCond .ne 7, 3) := by decide +kernel
theorem dX4_turn_26 : decode cX4_turn 26 = .ok (.iconst 1, 1) := by decide +kernel
theorem dX4_turn_27 : decode cX4_turn 27 = .ok (.goto 4, 3) := by decide +kernel
theorem dX4_turn_30 : decode cX4_turn 30 = .ok (.iconst 0, 1) := by decide +kernel
theorem dX4_turn_31 : decode cX4_turn 31 = .ok (.bastore, 1) := by decide +kernel
theorem dX4_turn_32 : decode cX4_turn 32 = .ok (.aload_n 0, 1) := by decide +kernel
theorem dX4_turn_33 : decode cX4_turn 33 = .ok (.getfield 23, 3) := by decide +kernel
theorem dX4_turn_36 : decode cX4_turn 36 = .ok (.iload_n 3, 1) := by decide +kernel
theorem dX4_turn_37 : decode cX4_turn 37 = .ok (.baload, 1) := by decide +kernel
theorem dX4_turn_38 : decode cX4_turn 38 = .ok (.ireturn, 1) := by decide +kernel
set_option maxRecDepth 20000 in
theorem ggX4_run_X0_perforate : GoodIn wsX4_run wsX0_perforate := goodIn_r _ [11, 12, 13, 14, 15, 16, 17, 18, 19, 20, 21, 22, 23, 24, 25, 26, 10, 27, 28, 29, 30, 31, 32, 33, 34, 35, 36, 37, 38, 39, 40, 41, 42, 43, 44, 45, 46, 47, 48, 49, 50, 51, 52, 53, 54, 55, 56, 62, 63, 64, 65, 66, 67, 68, 69, 70, 71, 72] (by decide +kernel) (by decide +kernel)
set_option maxRecDepth 20000 in
theorem gX4_run_X0_perforate : GoodIn wsX4_run (wsV RX4 96 RX0 yX0_perforate wsX0_perforate) := goodIn_app (goodIn_of _ (by decide +kernel)) ggX4_run_X0_perforate
theorem dX4_run_0 : decode cX4_run 0 = .ok (.aload_n 0, 1) := by decide +kernel
theorem dX4_run_1 : decode cX4_run 1 = .ok (.getfield 88, 3) := by decide +kernel
theorem dX4_run_4 : decode cX4_run 4 = .ok (.bipush 20, 2) := by decide +kernel
theorem dX4_run_6 : decode cX4_run 6 = .ok (.if_icmp .ge 14, 3) := by decide +kernel
theorem dX4_run_9 : decode cX4_run 9 = .ok (.aload_n 0, 1) := by decide +kernel
theorem dX4_run_10 : decode cX4_run 10 = .ok (.getfield 12, 3) := by decide +kernel
theorem dX4_run_13 : decode cX4_run 13 = .ok (.getfield 57, 3) := by decide +kernel
theorem dX4_run_16 : decode cX4_run 16 = .ok (.iconst 5, 1) := by decide +kernel
theorem dX4_run_17 : decode cX4_run 17 = .ok (.if_icmp .ge 13, 3) := by decide +kernel
theorem dX4_run_20 : decode cX4_run 20 = .ok (.new 91, 3) := by decide +kernel
theorem dX4_run_23 : decode cX4_run 23 = .ok (.dup, 1) := by decide +kernel
theorem dX4_run_24 : decode cX4_run 24 = .ok (.ldc 93, 2) := by decide +kernel
theorem dX4_run_26 : decode cX4_run 26 = .ok (.invokespecial 95, 3) := by decide +kernel
theorem dX4_run_29 : decode cX4_run 29 = .ok (.athrow, 1) := by decide +kernel
theorem dX4_run_30 : decode cX4_run 30 = .ok (.aload_n 0, 1) := by decide +kernel
theorem dX4_run_31 : decode cX4_run 31 = .ok (.getfield 12, 3) := by decide +kernel
theorem dX4_run_34 : decode cX4_run 34 = .ok (.aload_n 0, 1) := by decide +kernel
theorem dX4_run_35 : decode cX4_run 35 = .ok (.getfield 23, 3) := by decide +kernel
theorem dX4_run_38 : decode cX4_run 38 = .ok (.aload_n 0, 1) := by decide +kernel
theorem dX4_run_39 : decode cX4_run 39 = .ok (.getfield 29, 3) := by decide +kernel
theorem dX4_run_42 : decode cX4_run 42 = .ok (.aload_n 0, 1) := by decide +kernel
theorem dX4_run_43 : decode cX4_run 43 = .ok (.getfield 88, 3) := by decide +kernel
theorem dX4_run_46 : decode cX4_run 46 = .ok (.aaload, 1) := by decide +kernel
theorem dX4_run_47 : decode cX4_run 47 = .ok (.invokevirtual 96, 3) := by decide +kernel
theorem dX4_run_50 : decode cX4_run 50 = .ok (.aload_n 0, 1) := by decide +kernel
theorem dX4_run_51 : decode cX4_run 51 = .ok (.dup, 1) := by decide +kernel
theorem dX4_run_52 : decode cX4_run 52 = .ok (.getfield 88, 3) := by decide +kernel
theorem dX4_run_55 : decode cX4_run 55 = .ok (.iconst 1, 1) := by decide +kernel
theorem dX4_run_56 : decode cX4_run 56 = .ok (.iadd, 1) := by decide +kernel
theorem dX4_run_57 : decode cX4_run 57 = .ok (.putfield 88, 3) := by decide +kernel
theorem dX4_run_60 : decode cX4_run 60 = .ok (.aload_n 0, 1) := by decide +kernel
theorem dX4_run_61 : decode cX4_run 61 = .ok (.getfield 88, 3) := by decide +kernel
theorem dX4_run_64 : decode cX4_run 64 = .ok (.iconst 1, 1) := by decide +kernel
theorem dX4_run_65 : decode cX4_run 65 = .ok (.isub, 1) := by decide +kernel
theorem dX4_run_66 : decode cX4_run 66 = .ok (.ireturn, 1) := by decide +kernel
set_option maxRecDepth 20000 in
theorem ggX4_faults_X4_checkSheet : GoodIn wsX4_faults wsX4_checkSheet := goodIn_ca (goodIn_r _ [6, 7, 8, 9, 10, 11, 5, 12, 16, 17, 18, 19, 20] (by decide +kernel) (by decide +kernel)) (goodIn_sub (fun _ h => List.mem_cons_of_mem _ (List.mem_append_right _ h)) (by decide +kernel))
set_option maxRecDepth 20000 in
theorem gX4_faults_X4_checkSheet : GoodIn wsX4_faults (wsV RX4 100 RX4 yX4_checkSheet wsX4_checkSheet) := goodIn_app (goodIn_of _ (by decide +kernel)) ggX4_faults_X4_checkSheet
set_option maxRecDepth 20000 in
theorem ggX4_faults_X4_checkPlace : GoodIn wsX4_faults wsX4_checkPlace := goodIn_ca (goodIn_r _ [15, 7, 8, 10, 11, 5, 12] (by decide +kernel) (by decide +kernel)) (goodIn_sub (fun _ h => List.mem_cons_of_mem _ (List.mem_append_right _ h)) (by decide +kernel))
set_option maxRecDepth 20000 in
theorem gX4_faults_X4_checkPlace : GoodIn wsX4_faults (va_wsS RX4 84 yX4_checkPlace wsX4_checkPlace) := goodIn_app (goodIn_of _ (by decide +kernel)) ggX4_faults_X4_checkPlace
theorem dX4_faults_0 : decode cX4_faults 0 = .ok (.aload_n 0, 1) := by decide +kernel
theorem dX4_faults_1 : decode cX4_faults 1 = .ok (.iload_n 1, 1) := by decide +kernel
theorem dX4_faults_2 : decode cX4_faults 2 = .ok (.invokevirtual 100, 3) := by decide +kernel
theorem dX4_faults_5 : decode cX4_faults 5 = .ok (.iload_n 2, 1) := by decide +kernel
theorem dX4_faults_6 : decode cX4_faults 6 = .ok (.iload_n 3, 1) := by decide +kernel
theorem dX4_faults_7 : decode cX4_faults 7 = .ok (.invokestatic 84, 3) := by decide +kernel
theorem dX4_faults_10 : decode cX4_faults 10 = .ok (.aload_n 0, 1) := by decide +kernel
theorem dX4_faults_11 : decode cX4_faults 11 = .ok (.getfield 29, 3) := by decide +kernel
theorem dX4_faults_14 : decode cX4_faults 14 = .ok (.iload_n 1, 1) := by decide +kernel
theorem dX4_faults_15 : decode cX4_faults 15 = .ok (.aaload, 1) := by decide +kernel
theorem dX4_faults_16 : decode cX4_faults 16 = .ok (.getfield 103, 3) := by decide +kernel
theorem dX4_faults_19 : decode cX4_faults 19 = .ok (.bipush 6, 2) := by decide +kernel
theorem dX4_faults_21 : decode cX4_faults 21 = .ok (.iload_n 2, 1) := by decide +kernel
theorem dX4_faults_22 : decode cX4_faults 22 = .ok (.imul, 1) := by decide +kernel
theorem dX4_faults_23 : decode cX4_faults 23 = .ok (.iload_n 3, 1) := by decide +kernel
theorem dX4_faults_24 : decode cX4_faults 24 = .ok (.iadd, 1) := by decide +kernel
theorem dX4_faults_25 : decode cX4_faults 25 = .ok (.iaload, 1) := by decide +kernel
theorem dX4_faults_26 : decode cX4_faults 26 = .ok (.ireturn, 1) := by decide +kernel
set_option maxRecDepth 20000 in
theorem ggX4_tear_X4_checkSheet : GoodIn wsX4_tear wsX4_checkSheet := goodIn_ca (goodIn_r _ [8, 9, 10, 11, 12, 13, 7, 14, 25, 26, 27, 28, 29] (by decide +kernel) (by decide +kernel)) (goodIn_sub (fun _ h => List.mem_cons_of_mem _ (List.mem_append_right _ h)) (by decide +kernel))
set_option maxRecDepth 20000 in
theorem gX4_tear_X4_checkSheet : GoodIn wsX4_tear (wsV RX4 100 RX4 yX4_checkSheet wsX4_checkSheet) := goodIn_app (goodIn_of _ (by decide +kernel)) ggX4_tear_X4_checkSheet
set_option maxRecDepth 20000 in
theorem ggX4_tear_X4_checkPlace : GoodIn wsX4_tear wsX4_checkPlace := goodIn_ca (goodIn_r _ [17, 9, 10, 12, 13, 7, 14] (by decide +kernel) (by decide +kernel)) (goodIn_sub (fun _ h => List.mem_cons_of_mem _ (List.mem_append_right _ h)) (by decide +kernel))
set_option maxRecDepth 20000 in
theorem gX4_tear_X4_checkPlace : GoodIn wsX4_tear (va_wsS RX4 84 yX4_checkPlace wsX4_checkPlace) := goodIn_app (goodIn_of _ (by decide +kernel)) ggX4_tear_X4_checkPlace
set_option maxRecDepth 20000 in
theorem ggX4_tear_X2_worthOf : GoodIn wsX4_tear wsX2_worthOf := goodIn_r _ [22, 23, 24, 30, 31] (by decide +kernel) (by decide +kernel)
set_option maxRecDepth 20000 in
theorem gX4_tear_X2_worthOf : GoodIn wsX4_tear (wsV RX4 112 RX2 yX2_worthOf wsX2_worthOf) := goodIn_app (goodIn_of _ (by decide +kernel)) ggX4_tear_X2_worthOf
theorem dX4_tear_0 : decode cX4_tear 0 = .ok (.aload_n 0, 1) := by decide +kernel
theorem dX4_tear_1 : decode cX4_tear 1 = .ok (.iload_n 1, 1) := by decide +kernel
theorem dX4_tear_2 : decode cX4_tear 2 = .ok (.invokevirtual 100, 3) := by decide +kernel
theorem dX4_tear_5 : decode cX4_tear 5 = .ok (.iload_n 2, 1) := by decide +kernel
theorem dX4_tear_6 : decode cX4_tear 6 = .ok (.iload_n 3, 1) := by decide +kernel
theorem dX4_tear_7 : decode cX4_tear 7 = .ok (.invokestatic 84, 3) := by decide +kernel
theorem dX4_tear_10 : decode cX4_tear 10 = .ok (.aload_n 0, 1) := by decide +kernel
theorem dX4_tear_11 : decode cX4_tear 11 = .ok (.getfield 29, 3) := by decide +kernel
theorem dX4_tear_14 : decode cX4_tear 14 = .ok (.iload_n 1, 1) := by decide +kernel
theorem dX4_tear_15 : decode cX4_tear 15 = .ok (.aaload, 1) := by decide +kernel
theorem dX4_tear_16 : decode cX4_tear 16 = .ok (.astore 4, 2) := by decide +kernel
theorem dX4_tear_18 : decode cX4_tear 18 = .ok (.bipush 6, 2) := by decide +kernel
theorem dX4_tear_20 : decode cX4_tear 20 = .ok (.iload_n 2, 1) := by decide +kernel
theorem dX4_tear_21 : decode cX4_tear 21 = .ok (.imul, 1) := by decide +kernel
theorem dX4_tear_22 : decode cX4_tear 22 = .ok (.iload_n 3, 1) := by decide +kernel
theorem dX4_tear_23 : decode cX4_tear 23 = .ok (.iadd, 1) := by decide +kernel
theorem dX4_tear_24 : decode cX4_tear 24 = .ok (.istore 5, 2) := by decide +kernel
theorem dX4_tear_26 : decode cX4_tear 26 = .ok (.aload 4, 2) := by decide +kernel
theorem dX4_tear_28 : decode cX4_tear 28 = .ok (.getfield 107, 3) := by decide +kernel
theorem dX4_tear_31 : decode cX4_tear 31 = .ok (.iload 5, 2) := by decide +kernel
theorem dX4_tear_33 : decode cX4_tear 33 = .ok (.baload, 1) := by decide +kernel
theorem dX4_tear_34 : decode cX4_tear 34 = .ok (.ifCond .eq 13, 3) := by decide +kernel
theorem dX4_tear_37 : decode cX4_tear 37 = .ok (.new 91, 3) := by decide +kernel
theorem dX4_tear_40 : decode cX4_tear 40 = .ok (.dup, 1) := by decide +kernel
theorem dX4_tear_41 : decode cX4_tear 41 = .ok (.ldc 110, 2) := by decide +kernel
theorem dX4_tear_43 : decode cX4_tear 43 = .ok (.invokespecial 95, 3) := by decide +kernel
theorem dX4_tear_46 : decode cX4_tear 46 = .ok (.athrow, 1) := by decide +kernel
theorem dX4_tear_47 : decode cX4_tear 47 = .ok (.aload 4, 2) := by decide +kernel
theorem dX4_tear_49 : decode cX4_tear 49 = .ok (.iload 5, 2) := by decide +kernel
theorem dX4_tear_51 : decode cX4_tear 51 = .ok (.invokevirtual 112, 3) := by decide +kernel
theorem dX4_tear_54 : decode cX4_tear 54 = .ok (.istore 6, 2) := by decide +kernel
theorem dX4_tear_56 : decode cX4_tear 56 = .ok (.aload 4, 2) := by decide +kernel
theorem dX4_tear_58 : decode cX4_tear 58 = .ok (.getfield 107, 3) := by decide +kernel
theorem dX4_tear_61 : decode cX4_tear 61 = .ok (.iload 5, 2) := by decide +kernel
theorem dX4_tear_63 : decode cX4_tear 63 = .ok (.iconst 1, 1) := by decide +kernel
theorem dX4_tear_64 : decode cX4_tear 64 = .ok (.bastore, 1) := by decide +kernel
theorem dX4_tear_65 : decode cX4_tear 65 = .ok (.iload 6, 2) := by decide +kernel
theorem dX4_tear_67 : decode cX4_tear 67 = .ok (.ireturn, 1) := by decide +kernel
set_option maxRecDepth 20000 in
theorem ggX4_sheet_X4_checkSheet : GoodIn wsX4_sheet wsX4_checkSheet := goodIn_ca (goodIn_r _ [6, 7, 8, 9, 10, 11, 5, 12, 70, 71, 72, 73, 74] (by decide +kernel) (by decide +kernel)) (goodIn_sub (fun _ h => List.mem_cons_of_mem _ (List.mem_append_right _ h)) (by decide +kernel))
set_option maxRecDepth 20000 in
theorem gX4_sheet_X4_checkSheet : GoodIn wsX4_sheet (wsV RX4 100 RX4 yX4_checkSheet wsX4_checkSheet) := goodIn_app (goodIn_of _ (by decide +kernel)) ggX4_sheet_X4_checkSheet
set_option maxRecDepth 20000 in
theorem ggX4_sheet_X4_checkWhat : GoodIn wsX4_sheet wsX4_checkWhat := goodIn_ca (goodIn_r _ [15, 7, 8, 10, 11, 5, 12] (by decide +kernel) (by decide +kernel)) (goodIn_sub (fun _ h => List.mem_cons_of_mem _ (List.mem_append_right _ h)) (by decide +kernel))
set_option maxRecDepth 20000 in
theorem gX4_sheet_X4_checkWhat : GoodIn wsX4_sheet (va_wsS RX4 116 yX4_checkWhat wsX4_checkWhat) := goodIn_app (goodIn_of _ (by decide +kernel)) ggX4_sheet_X4_checkWhat
set_option maxRecDepth 20000 in
theorem ggX4_sheet_X2_answer : GoodIn wsX4_sheet wsX2_answer := goodIn_r _ [20, 21, 22, 23, 19, 24, 25, 26, 27, 28, 29, 30, 31, 32, 33, 34, 35, 36, 37, 38, 39, 40, 41, 42, 43, 44, 45, 46, 47, 48, 49, 50, 51, 52, 53, 54, 55, 56, 57, 58, 59, 60, 61, 62, 63, 64, 65, 66, 67, 68, 69, 75, 76] (by decide +kernel) (by decide +kernel)
set_option maxRecDepth 20000 in
theorem gX4_sheet_X2_answer : GoodIn wsX4_sheet (wsV RX4 119 RX2 yX2_answer wsX2_answer) := goodIn_app (goodIn_of _ (by decide +kernel)) ggX4_sheet_X2_answer
theorem dX4_sheet_0 : decode cX4_sheet 0 = .ok (.aload_n 0, 1) := by decide +kernel
theorem dX4_sheet_1 : decode cX4_sheet 1 = .ok (.iload_n 1, 1) := by decide +kernel
theorem dX4_sheet_2 : decode cX4_sheet 2 = .ok (.invokevirtual 100, 3) := by decide +kernel
theorem dX4_sheet_5 : decode cX4_sheet 5 = .ok (.iload_n 2, 1) := by decide +kernel
theorem dX4_sheet_6 : decode cX4_sheet 6 = .ok (.bipush 6, 2) := by decide +kernel
theorem dX4_sheet_8 : decode cX4_sheet 8 = .ok (.invokestatic 116, 3) := by decide +kernel
theorem dX4_sheet_11 : decode cX4_sheet 11 = .ok (.aload_n 0, 1) := by decide +kernel
theorem dX4_sheet_12 : decode cX4_sheet 12 = .ok (.getfield 29, 3) := by decide +kernel
theorem dX4_sheet_15 : decode cX4_sheet 15 = .ok (.iload_n 1, 1) := by decide +kernel
theorem dX4_sheet_16 : decode cX4_sheet 16 = .ok (.aaload, 1) := by decide +kernel
theorem dX4_sheet_17 : decode cX4_sheet 17 = .ok (.iload_n 2, 1) := by decide +kernel
theorem dX4_sheet_18 : decode cX4_sheet 18 = .ok (.invokevirtual 119, 3) := by decide +kernel
theorem dX4_sheet_21 : decode cX4_sheet 21 = .ok (.ireturn, 1) := by decide +kernel
set_option maxRecDepth 20000 in
theorem ggX4_pin_X4_checkPin : GoodIn wsX4_pin wsX4_checkPin := goodIn_ca (goodIn_r _ [5, 6, 7, 8, 9, 4, 10] (by decide +kernel) (by decide +kernel)) (goodIn_sub (fun _ h => List.mem_cons_of_mem _ (List.mem_append_right _ h)) (by decide +kernel))
set_option maxRecDepth 20000 in
theorem gX4_pin_X4_checkPin : GoodIn wsX4_pin (va_wsS RX4 66 yX4_checkPin wsX4_checkPin) := goodIn_app (goodIn_of _ (by decide +kernel)) ggX4_pin_X4_checkPin
set_option maxRecDepth 20000 in
theorem ggX4_pin_X4_checkWhat : GoodIn wsX4_pin wsX4_checkWhat := goodIn_ca (goodIn_r _ [13, 6, 7, 8, 9, 4, 10] (by decide +kernel) (by decide +kernel)) (goodIn_sub (fun _ h => List.mem_cons_of_mem _ (List.mem_append_right _ h)) (by decide +kernel))
set_option maxRecDepth 20000 in
theorem gX4_pin_X4_checkWhat : GoodIn wsX4_pin (va_wsS RX4 116 yX4_checkWhat wsX4_checkWhat) := goodIn_app (goodIn_of _ (by decide +kernel)) ggX4_pin_X4_checkWhat
set_option maxRecDepth 20000 in
theorem ggX4_pin_X1_answer : GoodIn wsX4_pin wsX1_answer := goodIn_r _ [18, 19, 20, 21, 22, 23, 17, 24, 37, 38] (by decide +kernel) (by decide +kernel)
set_option maxRecDepth 20000 in
theorem gX4_pin_X1_answer : GoodIn wsX4_pin (wsV RX4 122 RX1 yX1_answer wsX1_answer) := goodIn_app (goodIn_of _ (by decide +kernel)) ggX4_pin_X1_answer
theorem dX4_pin_0 : decode cX4_pin 0 = .ok (.iload_n 1, 1) := by decide +kernel
theorem dX4_pin_1 : decode cX4_pin 1 = .ok (.invokestatic 66, 3) := by decide +kernel
theorem dX4_pin_4 : decode cX4_pin 4 = .ok (.iload_n 2, 1) := by decide +kernel
theorem dX4_pin_5 : decode cX4_pin 5 = .ok (.iconst 4, 1) := by decide +kernel
theorem dX4_pin_6 : decode cX4_pin 6 = .ok (.invokestatic 116, 3) := by decide +kernel
theorem dX4_pin_9 : decode cX4_pin 9 = .ok (.aload_n 0, 1) := by decide +kernel
theorem dX4_pin_10 : decode cX4_pin 10 = .ok (.getfield 12, 3) := by decide +kernel
theorem dX4_pin_13 : decode cX4_pin 13 = .ok (.getfield 72, 3) := by decide +kernel
theorem dX4_pin_16 : decode cX4_pin 16 = .ok (.iload_n 1, 1) := by decide +kernel
theorem dX4_pin_17 : decode cX4_pin 17 = .ok (.aaload, 1) := by decide +kernel
theorem dX4_pin_18 : decode cX4_pin 18 = .ok (.iload_n 2, 1) := by decide +kernel
theorem dX4_pin_19 : decode cX4_pin 19 = .ok (.invokevirtual 122, 3) := by decide +kernel
theorem dX4_pin_22 : decode cX4_pin 22 = .ok (.ireturn, 1) := by decide +kernel
set_option maxRecDepth 20000 in
theorem ggX4_count_X4_checkWhat : GoodIn wsX4_count wsX4_checkWhat := goodIn_ca (goodIn_r _ [4, 5, 6, 7, 8, 3, 9] (by decide +kernel) (by decide +kernel)) (goodIn_sub (fun _ h => List.mem_cons_of_mem _ (List.mem_append_right _ h)) (by decide +kernel))
set_option maxRecDepth 20000 in
theorem gX4_count_X4_checkWhat : GoodIn wsX4_count (va_wsS RX4 116 yX4_checkWhat wsX4_checkWhat) := goodIn_app (goodIn_of _ (by decide +kernel)) ggX4_count_X4_checkWhat
set_option maxRecDepth 20000 in
theorem ggX4_count_X4_countAnswer : GoodIn wsX4_count wsX4_countAnswer := goodIn_r _ [13, 14, 15, 16, 17, 18, 19, 20, 21, 22, 23, 24, 25, 26, 27, 28, 29, 30, 31, 3, 32, 33, 34, 35, 36, 37, 38, 39, 40, 41, 42, 43, 44, 45, 46, 47, 48, 49, 50, 51, 52, 53, 54, 55, 56, 57, 58, 59, 60, 61, 62, 63, 64, 65] (by decide +kernel) (by decide +kernel)
set_option maxRecDepth 20000 in
theorem gX4_count_X4_countAnswer : GoodIn wsX4_count (wsV RX4 123 RX4 yX4_countAnswer wsX4_countAnswer) := goodIn_app (goodIn_of _ (by decide +kernel)) ggX4_count_X4_countAnswer
theorem dX4_count_0 : decode cX4_count 0 = .ok (.iload_n 1, 1) := by decide +kernel
theorem dX4_count_1 : decode cX4_count 1 = .ok (.bipush 10, 2) := by decide +kernel
theorem dX4_count_3 : decode cX4_count 3 = .ok (.invokestatic 116, 3) := by decide +kernel
theorem dX4_count_6 : decode cX4_count 6 = .ok (.aload_n 0, 1) := by decide +kernel
theorem dX4_count_7 : decode cX4_count 7 = .ok (.iload_n 1, 1) := by decide +kernel
theorem dX4_count_8 : decode cX4_count 8 = .ok (.invokevirtual 123, 3) := by decide +kernel
theorem dX4_count_11 : decode cX4_count 11 = .ok (.ireturn, 1) := by decide +kernel
set_option maxRecDepth 20000 in
theorem ggX4_foresee_X4_checkSheetsToRun : GoodIn wsX4_foresee wsX4_checkSheetsToRun := goodIn_ca (goodIn_r _ [7, 8, 9, 10, 11, 6, 12] (by decide +kernel) (by decide +kernel)) (goodIn_sub (fun _ h => List.mem_cons_of_mem _ (List.mem_append_left _ (List.mem_append_right _ h))) (by decide +kernel))
set_option maxRecDepth 20000 in
theorem gX4_foresee_X4_checkSheetsToRun : GoodIn wsX4_foresee (va_wsS RX4 126 yX4_checkSheetsToRun wsX4_checkSheetsToRun) := goodIn_app (goodIn_of _ (by decide +kernel)) ggX4_foresee_X4_checkSheetsToRun
set_option maxRecDepth 20000 in
theorem ggX4_foresee_X4_checkWhat : GoodIn wsX4_foresee wsX4_checkWhat := goodIn_ca (goodIn_r _ [15, 16, 17, 10, 11, 6, 12] (by decide +kernel) (by decide +kernel)) (goodIn_sub (fun _ h => List.mem_cons_of_mem _ (List.mem_append_right _ h)) (by decide +kernel))
set_option maxRecDepth 20000 in
theorem gX4_foresee_X4_checkWhat : GoodIn wsX4_foresee (va_wsS RX4 116 yX4_checkWhat wsX4_checkWhat) := goodIn_app (goodIn_of _ (by decide +kernel)) ggX4_foresee_X4_checkWhat
set_option maxRecDepth 20000 in
theorem ggX4_foresee_X3_perforateFrom : GoodIn wsX4_foresee wsX3_perforateFrom := goodIn_r _ [22, 23, 24, 25, 26, 27, 28, 29, 30, 31, 32, 33, 34, 35, 36, 37, 38, 39, 40, 41, 42, 43, 44, 45, 46, 47, 48, 49, 50, 51, 52, 53, 54, 55, 56, 57, 58, 59, 60, 11, 6, 12, 61, 62, 63, 64, 65, 66, 67, 68, 69, 70, 71, 72, 73, 74, 75, 76, 77, 78, 79, 80, 81, 82, 83, 84, 85, 86, 87, 88, 89, 90, 91, 92, 93, 94, 95, 96, 97, 98, 99, 100, 121, 122, 123, 124, 114, 115, 116, 117, 118, 119, 120, 125, 126, 127, 128] (by decide +kernel) (by decide +kernel)
set_option maxRecDepth 20000 in
theorem gX4_foresee_X3_perforateFrom : GoodIn wsX4_foresee (wsV RX4 129 RX3 yX3_perforateFrom wsX3_perforateFrom) := goodIn_app (goodIn_of _ (by decide +kernel)) ggX4_foresee_X3_perforateFrom
set_option maxRecDepth 20000 in
theorem ggX4_foresee_X3_answer : GoodIn wsX4_foresee wsX3_answer := goodIn_r _ [104, 24, 25, 23, 105, 106, 107, 30, 108, 32, 65, 66, 67, 42, 68, 45, 44, 121, 122, 123, 124, 114, 115, 116, 117, 118, 119, 120, 125, 126] (by decide +kernel) (by decide +kernel)
set_option maxRecDepth 20000 in
theorem gX4_foresee_X3_answer : GoodIn wsX4_foresee (wsV RX4 133 RX3 yX3_answer wsX3_answer) := goodIn_app (goodIn_of _ (by decide +kernel)) ggX4_foresee_X3_answer
theorem dX4_foresee_0 : decode cX4_foresee 0 = .ok (.iload_n 1, 1) := by decide +kernel
theorem dX4_foresee_1 : decode cX4_foresee 1 = .ok (.invokestatic 126, 3) := by decide +kernel
theorem dX4_foresee_4 : decode cX4_foresee 4 = .ok (.iload_n 2, 1) := by decide +kernel
theorem dX4_foresee_5 : decode cX4_foresee 5 = .ok (.iconst 4, 1) := by decide +kernel
theorem dX4_foresee_6 : decode cX4_foresee 6 = .ok (.invokestatic 116, 3) := by decide +kernel
theorem dX4_foresee_9 : decode cX4_foresee 9 = .ok (.aload_n 0, 1) := by decide +kernel
theorem dX4_foresee_10 : decode cX4_foresee 10 = .ok (.getfield 19, 3) := by decide +kernel
theorem dX4_foresee_13 : decode cX4_foresee 13 = .ok (.aload_n 0, 1) := by decide +kernel
theorem dX4_foresee_14 : decode cX4_foresee 14 = .ok (.getfield 12, 3) := by decide +kernel
theorem dX4_foresee_17 : decode cX4_foresee 17 = .ok (.aload_n 0, 1) := by decide +kernel
theorem dX4_foresee_18 : decode cX4_foresee 18 = .ok (.getfield 12, 3) := by decide +kernel
theorem dX4_foresee_21 : decode cX4_foresee 21 = .ok (.getfield 45, 3) := by decide +kernel
theorem dX4_foresee_24 : decode cX4_foresee 24 = .ok (.aload_n 0, 1) := by decide +kernel
theorem dX4_foresee_25 : decode cX4_foresee 25 = .ok (.getfield 23, 3) := by decide +kernel
theorem dX4_foresee_28 : decode cX4_foresee 28 = .ok (.iload_n 1, 1) := by decide +kernel
theorem dX4_foresee_29 : decode cX4_foresee 29 = .ok (.invokevirtual 129, 3) := by decide +kernel
theorem dX4_foresee_32 : decode cX4_foresee 32 = .ok (.aload_n 0, 1) := by decide +kernel
theorem dX4_foresee_33 : decode cX4_foresee 33 = .ok (.getfield 19, 3) := by decide +kernel
theorem dX4_foresee_36 : decode cX4_foresee 36 = .ok (.iload_n 2, 1) := by decide +kernel
theorem dX4_foresee_37 : decode cX4_foresee 37 = .ok (.invokevirtual 133, 3) := by decide +kernel
theorem dX4_foresee_40 : decode cX4_foresee 40 = .ok (.ireturn, 1) := by decide +kernel
set_option maxRecDepth 20000 in
theorem ggX4_advise_X4_checkSheetsToRun : GoodIn wsX4_advise wsX4_checkSheetsToRun := goodIn_ca (goodIn_r _ [7, 8, 9, 10, 11, 6, 12] (by decide +kernel) (by decide +kernel)) (goodIn_sub (fun _ h => List.mem_cons_of_mem _ (List.mem_append_right _ h)) (by decide +kernel))
set_option maxRecDepth 20000 in
theorem gX4_advise_X4_checkSheetsToRun : GoodIn wsX4_advise (va_wsS RX4 126 yX4_checkSheetsToRun wsX4_checkSheetsToRun) := goodIn_app (goodIn_of _ (by decide +kernel)) ggX4_advise_X4_checkSheetsToRun
set_option maxRecDepth 20000 in
theorem ggX4_advise_X3_perforateFrom : GoodIn wsX4_advise wsX3_perforateFrom := goodIn_r _ [17, 18, 19, 20, 21, 22, 23, 24, 25, 26, 27, 28, 29, 30, 31, 32, 33, 34, 35, 36, 37, 38, 39, 40, 41, 42, 43, 44, 45, 46, 47, 48, 49, 50, 51, 52, 53, 54, 55, 11, 6, 12, 56, 57, 58, 59, 60, 61, 62, 63, 64, 65, 66, 67, 68, 69, 70, 71, 72, 73, 74, 75, 76, 77, 78, 79, 80, 81, 82, 83, 84, 85, 86, 87, 88, 89, 90, 91, 92, 93, 94, 95, 101, 102, 103, 104, 105, 106, 107, 108, 109, 110, 111, 112, 113, 114, 115] (by decide +kernel) (by decide +kernel)
set_option maxRecDepth 20000 in
theorem gX4_advise_X3_perforateFrom : GoodIn wsX4_advise (wsV RX4 129 RX3 yX3_perforateFrom wsX3_perforateFrom) := goodIn_app (goodIn_of _ (by decide +kernel)) ggX4_advise_X3_perforateFrom
theorem dX4_advise_0 : decode cX4_advise 0 = .ok (.iload_n 1, 1) := by decide +kernel
theorem dX4_advise_1 : decode cX4_advise 1 = .ok (.invokestatic 126, 3) := by decide +kernel
theorem dX4_advise_4 : decode cX4_advise 4 = .ok (.bipush 10, 2) := by decide +kernel
theorem dX4_advise_6 : decode cX4_advise 6 = .ok (.istore_n 2, 1) := by decide +kernel
theorem dX4_advise_7 : decode cX4_advise 7 = .ok (.iconst (-1), 1) := by decide +kernel
theorem dX4_advise_8 : decode cX4_advise 8 = .ok (.istore_n 3, 1) := by decide +kernel
theorem dX4_advise_9 : decode cX4_advise 9 = .ok (.bipush 10, 2) := by decide +kernel
theorem dX4_advise_11 : decode cX4_advise 11 = .ok (.istore 4, 2) := by decide +kernel
theorem dX4_advise_13 : decode cX4_advise 13 = .ok (.iload 4, 2) := by decide +kernel
theorem dX4_advise_15 : decode cX4_advise 15 = .ok (.bipush 30, 2) := by decide +kernel
theorem dX4_advise_17 : decode cX4_advise 17 = .ok (.if_icmp .gt 49, 3) := by decide +kernel
theorem dX4_advise_20 : decode cX4_advise 20 = .ok (.aload_n 0, 1) := by decide +kernel
theorem dX4_advise_21 : decode cX4_advise 21 = .ok (.getfield 19, 3) := by decide +kernel
theorem dX4_advise_24 : decode cX4_advise 24 = .ok (.aload_n 0, 1) := by decide +kernel
theorem dX4_advise_25 : decode cX4_advise 25 = .ok (.getfield 12, 3) := by decide +kernel
theorem dX4_advise_28 : decode cX4_advise 28 = .ok (.iload 4, 2) := by decide +kernel
theorem dX4_advise_30 : decode cX4_advise 30 = .ok (.aload_n 0, 1) := by decide +kernel
theorem dX4_advise_31 : decode cX4_advise 31 = .ok (.getfield 23, 3) := by decide +kernel
theorem dX4_advise_34 : decode cX4_advise 34 = .ok (.iload_n 1, 1) := by decide +kernel
theorem dX4_advise_35 : decode cX4_advise 35 = .ok (.invokevirtual 129, 3) := by decide +kernel
theorem dX4_advise_38 : decode cX4_advise 38 = .ok (.aload_n 0, 1) := by decide +kernel
theorem dX4_advise_39 : decode cX4_advise 39 = .ok (.getfield 19, 3) := by decide +kernel
theorem dX4_advise_42 : decode cX4_advise 42 = .ok (.getfield 134, 3) := by decide +kernel
theorem dX4_advise_45 : decode cX4_advise 45 = .ok (.iload_n 3, 1) := by decide +kernel
theorem dX4_advise_46 : decode cX4_advise 46 = .ok (.if_icmp .le 14, 3) := by decide +kernel
theorem dX4_advise_49 : decode cX4_advise 49 = .ok (.aload_n 0, 1) := by decide +kernel
theorem dX4_advise_50 : decode cX4_advise 50 = .ok (.getfield 19, 3) := by decide +kernel
theorem dX4_advise_53 : decode cX4_advise 53 = .ok (.getfield 134, 3) := by decide +kernel
theorem dX4_advise_56 : decode cX4_advise 56 = .ok (.istore_n 3, 1) := by decide +kernel
theorem dX4_advise_57 : decode cX4_advise 57 = .ok (.iload 4, 2) := by decide +kernel
theorem dX4_advise_59 : decode cX4_advise 59 = .ok (.istore_n 2, 1) := by decide +kernel
theorem dX4_advise_60 : decode cX4_advise 60 = .ok (.iinc 4 1, 3) := by decide +kernel
theorem dX4_advise_63 : decode cX4_advise 63 = .ok (.goto (-50), 3) := by decide +kernel
theorem dX4_advise_66 : decode cX4_advise 66 = .ok (.iload_n 2, 1) := by decide +kernel
theorem dX4_advise_67 : decode cX4_advise 67 = .ok (.ireturn, 1) := by decide +kernel
set_option maxRecDepth 20000 in
theorem ggX4_like_X4_isWithin : GoodIn wsX4_like wsX4_isWithin := goodIn_r _ [6] (by decide +kernel) (by decide +kernel)
set_option maxRecDepth 20000 in
theorem gX4_like_X4_isWithin : GoodIn wsX4_like (va_wsS RX4 34 yX4_isWithin wsX4_isWithin) := goodIn_app (goodIn_of _ (by decide +kernel)) ggX4_like_X4_isWithin
set_option maxRecDepth 20000 in
theorem ggX4_like_X4_stampsWith : GoodIn wsX4_like wsX4_stampsWith := goodIn_r _ [10, 11, 12, 13, 14, 15, 16, 17, 18, 19, 20, 21, 22, 23, 24, 25, 26, 27, 28, 29, 30] (by decide +kernel) (by decide +kernel)
set_option maxRecDepth 20000 in
theorem gX4_like_X4_stampsWith : GoodIn wsX4_like (wsV RX4 139 RX4 yX4_stampsWith wsX4_stampsWith) := goodIn_app (goodIn_of _ (by decide +kernel)) ggX4_like_X4_stampsWith
theorem dX4_like_0 : decode cX4_like 0 = .ok (.iload_n 1, 1) := by decide +kernel
theorem dX4_like_1 : decode cX4_like 1 = .ok (.iconst 0, 1) := by decide +kernel
theorem dX4_like_2 : decode cX4_like 2 = .ok (.bipush 31, 2) := by decide +kernel
theorem dX4_like_4 : decode cX4_like 4 = .ok (.invokestatic 34, 3) := by decide +kernel
theorem dX4_like_7 : decode cX4_like 7 = .ok (.ifCond .ne 13, 3) := by decide +kernel
theorem dX4_like_10 : decode cX4_like 10 = .ok (.new 38, 3) := by decide +kernel
theorem dX4_like_13 : decode cX4_like 13 = .ok (.dup, 1) := by decide +kernel
theorem dX4_like_14 : decode cX4_like 14 = .ok (.ldc 137, 2) := by decide +kernel
theorem dX4_like_16 : decode cX4_like 16 = .ok (.invokespecial 42, 3) := by decide +kernel
theorem dX4_like_19 : decode cX4_like 19 = .ok (.athrow, 1) := by decide +kernel
theorem dX4_like_20 : decode cX4_like 20 = .ok (.aload_n 0, 1) := by decide +kernel
theorem dX4_like_21 : decode cX4_like 21 = .ok (.iload_n 1, 1) := by decide +kernel
theorem dX4_like_22 : decode cX4_like 22 = .ok (.invokevirtual 139, 3) := by decide +kernel
theorem dX4_like_25 : decode cX4_like 25 = .ok (.ireturn, 1) := by decide +kernel
set_option maxRecDepth 20000 in
theorem ggX4_share_X4_stampsWith : GoodIn wsX4_share wsX4_stampsWith := goodIn_r _ [6, 1, 7, 8, 9, 10, 11, 12, 13, 14, 15, 16, 17, 18, 19, 20, 21, 22, 23, 24, 25] (by decide +kernel) (by decide +kernel)
set_option maxRecDepth 20000 in
theorem gX4_share_X4_stampsWith : GoodIn wsX4_share (wsV RX4 139 RX4 yX4_stampsWith wsX4_stampsWith) := goodIn_app (goodIn_of _ (by decide +kernel)) ggX4_share_X4_stampsWith
theorem dX4_share_0 : decode cX4_share 0 = .ok (.bipush 30, 2) := by decide +kernel
theorem dX4_share_2 : decode cX4_share 2 = .ok (.aload_n 0, 1) := by decide +kernel
theorem dX4_share_3 : decode cX4_share 3 = .ok (.getfield 88, 3) := by decide +kernel
theorem dX4_share_6 : decode cX4_share 6 = .ok (.imul, 1) := by decide +kernel
theorem dX4_share_7 : decode cX4_share 7 = .ok (.istore_n 1, 1) := by decide +kernel
theorem dX4_share_8 : decode cX4_share 8 = .ok (.iload_n 1, 1) := by decide +kernel
theorem dX4_share_9 : decode cX4_share 9 = .ok (.ifCond .ne 5, 3) := by decide +kernel
theorem dX4_share_12 : decode cX4_share 12 = .ok (.dconst 0, 1) := by decide +kernel
theorem dX4_share_13 : decode cX4_share 13 = .ok (.dreturn, 1) := by decide +kernel
theorem dX4_share_14 : decode cX4_share 14 = .ok (.aload_n 0, 1) := by decide +kernel
theorem dX4_share_15 : decode cX4_share 15 = .ok (.iconst 0, 1) := by decide +kernel
theorem dX4_share_16 : decode cX4_share 16 = .ok (.invokevirtual 139, 3) := by decide +kernel
theorem dX4_share_19 : decode cX4_share 19 = .ok (.i2d, 1) := by decide +kernel
theorem dX4_share_20 : decode cX4_share 20 = .ok (.iload_n 1, 1) := by decide +kernel
theorem dX4_share_21 : decode cX4_share 21 = .ok (.i2d, 1) := by decide +kernel
theorem dX4_share_22 : decode cX4_share 22 = .ok (.ddiv, 1) := by decide +kernel
theorem dX4_share_23 : decode cX4_share 23 = .ok (.dreturn, 1) := by decide +kernel
set_option maxRecDepth 20000 in
theorem ggX4_digest_X4_countAnswer : GoodIn wsX4_digest wsX4_countAnswer := goodIn_r _ [10, 4, 3, 11, 12, 13, 14, 15, 16, 17, 18, 19, 20, 21, 22, 23, 24, 25, 26, 9, 27, 28, 29, 30, 31, 32, 5, 33, 34, 35, 36, 37, 38, 39, 40, 41, 42, 43, 98, 99, 100, 101, 102, 103, 104, 105, 106, 107, 108, 109, 110, 111, 112, 113] (by decide +kernel) (by decide +kernel)
set_option maxRecDepth 20000 in
theorem gX4_digest_X4_countAnswer : GoodIn wsX4_digest (wsV RX4 123 RX4 yX4_countAnswer wsX4_countAnswer) := goodIn_app (goodIn_of _ (by decide +kernel)) ggX4_digest_X4_countAnswer
set_option maxRecDepth 20000 in
theorem ggX4_digest_X1_answer : GoodIn wsX4_digest wsX1_answer := goodIn_r _ [47, 23, 22, 48, 18, 19, 20, 21, 110, 111] (by decide +kernel) (by decide +kernel)
set_option maxRecDepth 20000 in
theorem gX4_digest_X1_answer : GoodIn wsX4_digest (wsV RX4 122 RX1 yX1_answer wsX1_answer) := goodIn_app (goodIn_of _ (by decide +kernel)) ggX4_digest_X1_answer
set_option maxRecDepth 20000 in
theorem ggX4_digest_X2_addToDigest : GoodIn wsX4_digest wsX2_addToDigest := goodIn_r _ [52, 53, 42, 54, 55, 56, 36, 57, 58, 59, 60, 61, 43, 62, 63, 64, 65, 66, 67, 68, 69, 70, 34, 35, 37, 38, 39, 40, 41, 71, 72, 73, 74, 75, 76, 77, 78, 79, 80, 81, 82, 83, 84, 85, 86, 87, 88, 89, 90, 91, 92, 93, 94, 95, 96, 97, 112, 113] (by decide +kernel) (by decide +kernel)
set_option maxRecDepth 20000 in
theorem gX4_digest_X2_addToDigest : GoodIn wsX4_digest (wsV RX4 146 RX2 yX2_addToDigest wsX2_addToDigest) := goodIn_app (goodIn_of _ (by decide +kernel)) ggX4_digest_X2_addToDigest
theorem dX4_digest_0 : decode cX4_digest 0 = .ok (.ldc2_w 142, 3) := by decide +kernel
theorem dX4_digest_3 : decode cX4_digest 3 = .ok (.lstore_n 1, 1) := by decide +kernel
theorem dX4_digest_4 : decode cX4_digest 4 = .ok (.iconst 0, 1) := by decide +kernel
theorem dX4_digest_5 : decode cX4_digest 5 = .ok (.istore_n 3, 1) := by decide +kernel
theorem dX4_digest_6 : decode cX4_digest 6 = .ok (.iload_n 3, 1) := by decide +kernel
theorem dX4_digest_7 : decode cX4_digest 7 = .ok (.bipush 10, 2) := by decide +kernel
theorem dX4_digest_9 : decode cX4_digest 9 = .ok (.if_icmp .ge 22, 3) := by decide +kernel
theorem dX4_digest_12 : decode cX4_digest 12 = .ok (.lload_n 1, 1) := by decide +kernel
theorem dX4_digest_13 : decode cX4_digest 13 = .ok (.ldc2_w 144, 3) := by decide +kernel
theorem dX4_digest_16 : decode cX4_digest 16 = .ok (.lmul, 1) := by decide +kernel
theorem dX4_digest_17 : decode cX4_digest 17 = .ok (.aload_n 0, 1) := by decide +kernel
theorem dX4_digest_18 : decode cX4_digest 18 = .ok (.iload_n 3, 1) := by decide +kernel
theorem dX4_digest_19 : decode cX4_digest 19 = .ok (.invokevirtual 123, 3) := by decide +kernel
theorem dX4_digest_22 : decode cX4_digest 22 = .ok (.i2l, 1) := by decide +kernel
theorem dX4_digest_23 : decode cX4_digest 23 = .ok (.ladd, 1) := by decide +kernel
theorem dX4_digest_24 : decode cX4_digest 24 = .ok (.lstore_n 1, 1) := by decide +kernel
theorem dX4_digest_25 : decode cX4_digest 25 = .ok (.iinc 3 1, 3) := by decide +kernel
theorem dX4_digest_28 : decode cX4_digest 28 = .ok (.goto (-22), 3) := by decide +kernel
theorem dX4_digest_31 : decode cX4_digest 31 = .ok (.iconst 0, 1) := by decide +kernel
theorem dX4_digest_32 : decode cX4_digest 32 = .ok (.istore_n 3, 1) := by decide +kernel
theorem dX4_digest_33 : decode cX4_digest 33 = .ok (.iload_n 3, 1) := by decide +kernel
theorem dX4_digest_34 : decode cX4_digest 34 = .ok (.bipush 7, 2) := by decide +kernel
theorem dX4_digest_36 : decode cX4_digest 36 = .ok (.if_icmp .ge 46, 3) := by decide +kernel
theorem dX4_digest_39 : decode cX4_digest 39 = .ok (.iconst 0, 1) := by decide +kernel
theorem dX4_digest_40 : decode cX4_digest 40 = .ok (.istore 4, 2) := by decide +kernel
theorem dX4_digest_42 : decode cX4_digest 42 = .ok (.iload 4, 2) := by decide +kernel
theorem dX4_digest_44 : decode cX4_digest 44 = .ok (.iconst 4, 1) := by decide +kernel
theorem dX4_digest_45 : decode cX4_digest 45 = .ok (.if_icmp .ge 31, 3) := by decide +kernel
theorem dX4_digest_48 : decode cX4_digest 48 = .ok (.lload_n 1, 1) := by decide +kernel
theorem dX4_digest_49 : decode cX4_digest 49 = .ok (.ldc2_w 144, 3) := by decide +kernel
theorem dX4_digest_52 : decode cX4_digest 52 = .ok (.lmul, 1) := by decide +kernel
theorem dX4_digest_53 : decode cX4_digest 53 = .ok (.aload_n 0, 1) := by decide +kernel
theorem dX4_digest_54 : decode cX4_digest 54 = .ok (.getfield 12, 3) := by decide +kernel
theorem dX4_digest_57 : decode cX4_digest 57 = .ok (.getfield 72, 3) := by decide +kernel
theorem dX4_digest_60 : decode cX4_digest 60 = .ok (.iload_n 3, 1) := by decide +kernel
theorem dX4_digest_61 : decode cX4_digest 61 = .ok (.aaload, 1) := by decide +kernel
theorem dX4_digest_62 : decode cX4_digest 62 = .ok (.iload 4, 2) := by decide +kernel
theorem dX4_digest_64 : decode cX4_digest 64 = .ok (.invokevirtual 122, 3) := by decide +kernel
theorem dX4_digest_67 : decode cX4_digest 67 = .ok (.i2l, 1) := by decide +kernel
theorem dX4_digest_68 : decode cX4_digest 68 = .ok (.ladd, 1) := by decide +kernel
theorem dX4_digest_69 : decode cX4_digest 69 = .ok (.lstore_n 1, 1) := by decide +kernel
theorem dX4_digest_70 : decode cX4_digest 70 = .ok (.iinc 4 1, 3) := by decide +kernel
theorem dX4_digest_73 : decode cX4_digest 73 = .ok (.goto (-31), 3) := by decide +kernel
theorem dX4_digest_76 : decode cX4_digest 76 = .ok (.iinc 3 1, 3) := by decide +kernel
theorem dX4_digest_79 : decode cX4_digest 79 = .ok (.goto (-46), 3) := by decide +kernel
theorem dX4_digest_82 : decode cX4_digest 82 = .ok (.iconst 0, 1) := by decide +kernel
theorem dX4_digest_83 : decode cX4_digest 83 = .ok (.istore_n 3, 1) := by decide +kernel
theorem dX4_digest_84 : decode cX4_digest 84 = .ok (.iload_n 3, 1) := by decide +kernel
theorem dX4_digest_85 : decode cX4_digest 85 = .ok (.aload_n 0, 1) := by decide +kernel
theorem dX4_digest_86 : decode cX4_digest 86 = .ok (.getfield 88, 3) := by decide +kernel
theorem dX4_digest_89 : decode cX4_digest 89 = .ok (.if_icmp .ge 20, 3) := by decide +kernel
theorem dX4_digest_92 : decode cX4_digest 92 = .ok (.aload_n 0, 1) := by decide +kernel
theorem dX4_digest_93 : decode cX4_digest 93 = .ok (.getfield 29, 3) := by decide +kernel
theorem dX4_digest_96 : decode cX4_digest 96 = .ok (.iload_n 3, 1) := by decide +kernel
theorem dX4_digest_97 : decode cX4_digest 97 = .ok (.aaload, 1) := by decide +kernel
theorem dX4_digest_98 : decode cX4_digest 98 = .ok (.lload_n 1, 1) := by decide +kernel
theorem dX4_digest_99 : decode cX4_digest 99 = .ok (.invokevirtual 146, 3) := by decide +kernel
theorem dX4_digest_102 : decode cX4_digest 102 = .ok (.lstore_n 1, 1) := by decide +kernel
theorem dX4_digest_103 : decode cX4_digest 103 = .ok (.iinc 3 1, 3) := by decide +kernel
theorem dX4_digest_106 : decode cX4_digest 106 = .ok (.goto (-22), 3) := by decide +kernel
theorem dX4_digest_109 : decode cX4_digest 109 = .ok (.lload_n 1, 1) := by decide +kernel
theorem dX4_digest_110 : decode cX4_digest 110 = .ok (.lreturn, 1) := by decide +kernel
theorem dX4_isWithin_0 : decode cX4_isWithin 0 = .ok (.iload_n 0, 1) := by decide +kernel
theorem dX4_isWithin_1 : decode cX4_isWithin 1 = .ok (.iload_n 1, 1) := by decide +kernel
theorem dX4_isWithin_2 : decode cX4_isWithin 2 = .ok (.if_icmp .lt 12, 3) := by decide +kernel
theorem dX4_isWithin_5 : decode cX4_isWithin 5 = .ok (.iload_n 0, 1) := by decide +kernel
theorem dX4_isWithin_6 : decode cX4_isWithin 6 = .ok (.iload_n 2, 1) := by decide +kernel
theorem dX4_isWithin_7 : decode cX4_isWithin 7 = .ok (.if_icmp .gt 7, 3) := by decide +kernel
theorem dX4_isWithin_10 : decode cX4_isWithin 10 = .ok (.iconst 1, 1) := by decide +kernel
theorem dX4_isWithin_11 : decode cX4_isWithin 11 = .ok (.goto 4, 3) := by decide +kernel
theorem dX4_isWithin_14 : decode cX4_isWithin 14 = .ok (.iconst 0, 1) := by decide +kernel
theorem dX4_isWithin_15 : decode cX4_isWithin 15 = .ok (.ireturn, 1) := by decide +kernel
set_option maxRecDepth 20000 in
theorem ggX4_checkPin_X4_isWithin : GoodIn wsX4_checkPin wsX4_isWithin := goodIn_r _ [6] (by decide +kernel) (by decide +kernel)
set_option maxRecDepth 20000 in
theorem gX4_checkPin_X4_isWithin : GoodIn wsX4_checkPin (va_wsS RX4 34 yX4_isWithin wsX4_isWithin) := goodIn_app (goodIn_of _ (by decide +kernel)) ggX4_checkPin_X4_isWithin
theorem dX4_checkPin_0 : decode cX4_checkPin 0 = .ok (.iload_n 0, 1) := by decide +kernel
theorem dX4_checkPin_1 : decode cX4_checkPin 1 = .ok (.iconst 0, 1) := by decide +kernel
theorem dX4_checkPin_2 : decode cX4_checkPin 2 = .ok (.bipush 6, 2) := by decide +kernel
theorem dX4_checkPin_4 : decode cX4_checkPin 4 = .ok (.invokestatic 34, 3) := by decide +kernel
theorem dX4_checkPin_7 : decode cX4_checkPin 7 = .ok (.ifCond .ne 13, 3) := by decide +kernel
theorem dX4_checkPin_10 : decode cX4_checkPin 10 = .ok (.new 150, 3) := by decide +kernel
theorem dX4_checkPin_13 : decode cX4_checkPin 13 = .ok (.dup, 1) := by decide +kernel
theorem dX4_checkPin_14 : decode cX4_checkPin 14 = .ok (.ldc 152, 2) := by decide +kernel
theorem dX4_checkPin_16 : decode cX4_checkPin 16 = .ok (.invokespecial 154, 3) := by decide +kernel
theorem dX4_checkPin_19 : decode cX4_checkPin 19 = .ok (.athrow, 1) := by decide +kernel
theorem dX4_checkPin_20 : decode cX4_checkPin 20 = .ok (.return_, 1) := by decide +kernel
set_option maxRecDepth 20000 in
theorem ggX4_checkPlace_X4_isWithin : GoodIn wsX4_checkPlace wsX4_isWithin := goodIn_r _ [6] (by decide +kernel) (by decide +kernel)
set_option maxRecDepth 20000 in
theorem gX4_checkPlace_X4_isWithin : GoodIn wsX4_checkPlace (va_wsS RX4 34 yX4_isWithin wsX4_isWithin) := goodIn_app (goodIn_of _ (by decide +kernel)) ggX4_checkPlace_X4_isWithin
theorem dX4_checkPlace_0 : decode cX4_checkPlace 0 = .ok (.iload_n 0, 1) := by decide +kernel
theorem dX4_checkPlace_1 : decode cX4_checkPlace 1 = .ok (.iconst 0, 1) := by decide +kernel
theorem dX4_checkPlace_2 : decode cX4_checkPlace 2 = .ok (.iconst 4, 1) := by decide +kernel
theorem dX4_checkPlace_3 : decode cX4_checkPlace 3 = .ok (.invokestatic 34, 3) := by decide +kernel
theorem dX4_checkPlace_6 : decode cX4_checkPlace 6 = .ok (.ifCond .eq 12, 3) := by decide +kernel
theorem dX4_checkPlace_9 : decode cX4_checkPlace 9 = .ok (.iload_n 1, 1) := by decide +kernel
theorem dX4_checkPlace_10 : decode cX4_checkPlace 10 = .ok (.iconst 0, 1) := by decide +kernel
theorem dX4_checkPlace_11 : decode cX4_checkPlace 11 = .ok (.iconst 5, 1) := by decide +kernel
theorem dX4_checkPlace_12 : decode cX4_checkPlace 12 = .ok (.invokestatic 34, 3) := by decide +kernel
theorem dX4_checkPlace_15 : decode cX4_checkPlace 15 = .ok (.ifCond .ne 13, 3) := by decide +kernel
theorem dX4_checkPlace_18 : decode cX4_checkPlace 18 = .ok (.new 150, 3) := by decide +kernel
theorem dX4_checkPlace_21 : decode cX4_checkPlace 21 = .ok (.dup, 1) := by decide +kernel
theorem dX4_checkPlace_22 : decode cX4_checkPlace 22 = .ok (.ldc 155, 2) := by decide +kernel
theorem dX4_checkPlace_24 : decode cX4_checkPlace 24 = .ok (.invokespecial 154, 3) := by decide +kernel
theorem dX4_checkPlace_27 : decode cX4_checkPlace 27 = .ok (.athrow, 1) := by decide +kernel
theorem dX4_checkPlace_28 : decode cX4_checkPlace 28 = .ok (.return_, 1) := by decide +kernel
set_option maxRecDepth 20000 in
theorem ggX4_checkSheet_X4_isWithin : GoodIn wsX4_checkSheet wsX4_isWithin := goodIn_r _ [7] (by decide +kernel) (by decide +kernel)
set_option maxRecDepth 20000 in
theorem gX4_checkSheet_X4_isWithin : GoodIn wsX4_checkSheet (va_wsS RX4 34 yX4_isWithin wsX4_isWithin) := goodIn_app (goodIn_of _ (by decide +kernel)) ggX4_checkSheet_X4_isWithin
theorem dX4_checkSheet_0 : decode cX4_checkSheet 0 = .ok (.iload_n 1, 1) := by decide +kernel
theorem dX4_checkSheet_1 : decode cX4_checkSheet 1 = .ok (.iconst 0, 1) := by decide +kernel
theorem dX4_checkSheet_2 : decode cX4_checkSheet 2 = .ok (.aload_n 0, 1) := by decide +kernel
theorem dX4_checkSheet_3 : decode cX4_checkSheet 3 = .ok (.getfield 88, 3) := by decide +kernel
theorem dX4_checkSheet_6 : decode cX4_checkSheet 6 = .ok (.iconst 1, 1) := by decide +kernel
theorem dX4_checkSheet_7 : decode cX4_checkSheet 7 = .ok (.isub, 1) := by decide +kernel
theorem dX4_checkSheet_8 : decode cX4_checkSheet 8 = .ok (.invokestatic 34, 3) := by decide +kernel
theorem dX4_checkSheet_11 : decode cX4_checkSheet 11 = .ok (.ifCond .ne 13, 3) := by decide +kernel
theorem dX4_checkSheet_14 : decode cX4_checkSheet 14 = .ok (.new 150, 3) := by decide +kernel
theorem dX4_checkSheet_17 : decode cX4_checkSheet 17 = .ok (.dup, 1) := by decide +kernel
theorem dX4_checkSheet_18 : decode cX4_checkSheet 18 = .ok (.ldc 157, 2) := by decide +kernel
theorem dX4_checkSheet_20 : decode cX4_checkSheet 20 = .ok (.invokespecial 154, 3) := by decide +kernel
theorem dX4_checkSheet_23 : decode cX4_checkSheet 23 = .ok (.athrow, 1) := by decide +kernel
theorem dX4_checkSheet_24 : decode cX4_checkSheet 24 = .ok (.return_, 1) := by decide +kernel
set_option maxRecDepth 20000 in
theorem ggX4_checkWhat_X4_isWithin : GoodIn wsX4_checkWhat wsX4_isWithin := goodIn_r _ [6] (by decide +kernel) (by decide +kernel)
set_option maxRecDepth 20000 in
theorem gX4_checkWhat_X4_isWithin : GoodIn wsX4_checkWhat (va_wsS RX4 34 yX4_isWithin wsX4_isWithin) := goodIn_app (goodIn_of _ (by decide +kernel)) ggX4_checkWhat_X4_isWithin
theorem dX4_checkWhat_0 : decode cX4_checkWhat 0 = .ok (.iload_n 0, 1) := by decide +kernel
theorem dX4_checkWhat_1 : decode cX4_checkWhat 1 = .ok (.iconst 0, 1) := by decide +kernel
theorem dX4_checkWhat_2 : decode cX4_checkWhat 2 = .ok (.iload_n 1, 1) := by decide +kernel
theorem dX4_checkWhat_3 : decode cX4_checkWhat 3 = .ok (.iconst 1, 1) := by decide +kernel
theorem dX4_checkWhat_4 : decode cX4_checkWhat 4 = .ok (.isub, 1) := by decide +kernel
theorem dX4_checkWhat_5 : decode cX4_checkWhat 5 = .ok (.invokestatic 34, 3) := by decide +kernel
theorem dX4_checkWhat_8 : decode cX4_checkWhat 8 = .ok (.ifCond .ne 13, 3) := by decide +kernel
theorem dX4_checkWhat_11 : decode cX4_checkWhat 11 = .ok (.new 150, 3) := by decide +kernel
theorem dX4_checkWhat_14 : decode cX4_checkWhat 14 = .ok (.dup, 1) := by decide +kernel
theorem dX4_checkWhat_15 : decode cX4_checkWhat 15 = .ok (.ldc 159, 2) := by decide +kernel
theorem dX4_checkWhat_17 : decode cX4_checkWhat 17 = .ok (.invokespecial 154, 3) := by decide +kernel
theorem dX4_checkWhat_20 : decode cX4_checkWhat 20 = .ok (.athrow, 1) := by decide +kernel
theorem dX4_checkWhat_21 : decode cX4_checkWhat 21 = .ok (.return_, 1) := by decide +kernel
set_option maxRecDepth 20000 in
theorem ggX4_checkSheetsToRun_X4_isWithin : GoodIn wsX4_checkSheetsToRun wsX4_isWithin := goodIn_r _ [6] (by decide +kernel) (by decide +kernel)
set_option maxRecDepth 20000 in
theorem gX4_checkSheetsToRun_X4_isWithin : GoodIn wsX4_checkSheetsToRun (va_wsS RX4 34 yX4_isWithin wsX4_isWithin) := goodIn_app (goodIn_of _ (by decide +kernel)) ggX4_checkSheetsToRun_X4_isWithin
theorem dX4_checkSheetsToRun_0 : decode cX4_checkSheetsToRun 0 = .ok (.iload_n 0, 1) := by decide +kernel
theorem dX4_checkSheetsToRun_1 : decode cX4_checkSheetsToRun 1 = .ok (.iconst 1, 1) := by decide +kernel
theorem dX4_checkSheetsToRun_2 : decode cX4_checkSheetsToRun 2 = .ok (.bipush 20, 2) := by decide +kernel
theorem dX4_checkSheetsToRun_4 : decode cX4_checkSheetsToRun 4 = .ok (.invokestatic 34, 3) := by decide +kernel
theorem dX4_checkSheetsToRun_7 : decode cX4_checkSheetsToRun 7 = .ok (.ifCond .ne 13, 3) := by decide +kernel
theorem dX4_checkSheetsToRun_10 : decode cX4_checkSheetsToRun 10 = .ok (.new 38, 3) := by decide +kernel
theorem dX4_checkSheetsToRun_13 : decode cX4_checkSheetsToRun 13 = .ok (.dup, 1) := by decide +kernel
theorem dX4_checkSheetsToRun_14 : decode cX4_checkSheetsToRun 14 = .ok (.ldc 161, 2) := by decide +kernel
theorem dX4_checkSheetsToRun_16 : decode cX4_checkSheetsToRun 16 = .ok (.invokespecial 42, 3) := by decide +kernel
theorem dX4_checkSheetsToRun_19 : decode cX4_checkSheetsToRun 19 = .ok (.athrow, 1) := by decide +kernel
theorem dX4_checkSheetsToRun_20 : decode cX4_checkSheetsToRun 20 = .ok (.return_, 1) := by decide +kernel
set_option maxRecDepth 20000 in
theorem ggX4_countAnswer_X0_brokenPins : GoodIn wsX4_countAnswer wsX0_brokenPins := goodIn_r _ [7, 8, 9, 10, 11, 12, 13, 14, 15, 43, 44, 45, 46, 47, 48, 49, 50, 51] (by decide +kernel) (by decide +kernel)
set_option maxRecDepth 20000 in
theorem gX4_countAnswer_X0_brokenPins : GoodIn wsX4_countAnswer (wsV RX4 163 RX0 yX0_brokenPins wsX0_brokenPins) := goodIn_app (goodIn_of _ (by decide +kernel)) ggX4_countAnswer_X0_brokenPins
set_option maxRecDepth 20000 in
theorem ggX4_countAnswer_X4_invertedPlaces : GoodIn wsX4_countAnswer wsX4_invertedPlaces := goodIn_r _ [20, 21, 38, 39, 40, 41, 42] (by decide +kernel) (by decide +kernel)
set_option maxRecDepth 20000 in
theorem gX4_countAnswer_X4_invertedPlaces : GoodIn wsX4_countAnswer (wsV RX4 167 RX4 yX4_invertedPlaces wsX4_invertedPlaces) := goodIn_app (goodIn_of _ (by decide +kernel)) ggX4_countAnswer_X4_invertedPlaces
set_option maxRecDepth 20000 in
theorem ggX4_countAnswer_X4_worthOfSheets : GoodIn wsX4_countAnswer wsX4_worthOfSheets := goodIn_r _ [25, 1, 26, 27, 28, 29, 30, 31, 32, 33, 34, 35, 36, 37, 38, 39, 40, 41, 42, 52, 53] (by decide +kernel) (by decide +kernel)
set_option maxRecDepth 20000 in
theorem gX4_countAnswer_X4_worthOfSheets : GoodIn wsX4_countAnswer (wsV RX4 170 RX4 yX4_worthOfSheets wsX4_worthOfSheets) := goodIn_app (goodIn_of _ (by decide +kernel)) ggX4_countAnswer_X4_worthOfSheets
theorem dX4_countAnswer_0 : decode cX4_countAnswer 0 = .ok (.iload_n 1, 1) := by decide +kernel
theorem dX4_countAnswer_1 : decode cX4_countAnswer 1 = .ok (.tableswitch 117 0 8 #[51, 56, 64, 72, 80, 88, 96, 104, 112], 51) := by decide +kernel
theorem dX4_countAnswer_52 : decode cX4_countAnswer 52 = .ok (.aload_n 0, 1) := by decide +kernel
theorem dX4_countAnswer_53 : decode cX4_countAnswer 53 = .ok (.getfield 88, 3) := by decide +kernel
theorem dX4_countAnswer_56 : decode cX4_countAnswer 56 = .ok (.ireturn, 1) := by decide +kernel
theorem dX4_countAnswer_57 : decode cX4_countAnswer 57 = .ok (.aload_n 0, 1) := by decide +kernel
theorem dX4_countAnswer_58 : decode cX4_countAnswer 58 = .ok (.getfield 12, 3) := by decide +kernel
theorem dX4_countAnswer_61 : decode cX4_countAnswer 61 = .ok (.getfield 45, 3) := by decide +kernel
theorem dX4_countAnswer_64 : decode cX4_countAnswer 64 = .ok (.ireturn, 1) := by decide +kernel
theorem dX4_countAnswer_65 : decode cX4_countAnswer 65 = .ok (.aload_n 0, 1) := by decide +kernel
theorem dX4_countAnswer_66 : decode cX4_countAnswer 66 = .ok (.getfield 12, 3) := by decide +kernel
theorem dX4_countAnswer_69 : decode cX4_countAnswer 69 = .ok (.getfield 49, 3) := by decide +kernel
theorem dX4_countAnswer_72 : decode cX4_countAnswer 72 = .ok (.ireturn, 1) := by decide +kernel
theorem dX4_countAnswer_73 : decode cX4_countAnswer 73 = .ok (.aload_n 0, 1) := by decide +kernel
theorem dX4_countAnswer_74 : decode cX4_countAnswer 74 = .ok (.getfield 12, 3) := by decide +kernel
theorem dX4_countAnswer_77 : decode cX4_countAnswer 77 = .ok (.getfield 52, 3) := by decide +kernel
theorem dX4_countAnswer_80 : decode cX4_countAnswer 80 = .ok (.ireturn, 1) := by decide +kernel
theorem dX4_countAnswer_81 : decode cX4_countAnswer 81 = .ok (.aload_n 0, 1) := by decide +kernel
theorem dX4_countAnswer_82 : decode cX4_countAnswer 82 = .ok (.getfield 12, 3) := by decide +kernel
theorem dX4_countAnswer_85 : decode cX4_countAnswer 85 = .ok (.getfield 57, 3) := by decide +kernel
theorem dX4_countAnswer_88 : decode cX4_countAnswer 88 = .ok (.ireturn, 1) := by decide +kernel
theorem dX4_countAnswer_89 : decode cX4_countAnswer 89 = .ok (.aload_n 0, 1) := by decide +kernel
theorem dX4_countAnswer_90 : decode cX4_countAnswer 90 = .ok (.getfield 12, 3) := by decide +kernel
theorem dX4_countAnswer_93 : decode cX4_countAnswer 93 = .ok (.getfield 63, 3) := by decide +kernel
theorem dX4_countAnswer_96 : decode cX4_countAnswer 96 = .ok (.ireturn, 1) := by decide +kernel
theorem dX4_countAnswer_97 : decode cX4_countAnswer 97 = .ok (.aload_n 0, 1) := by decide +kernel
theorem dX4_countAnswer_98 : decode cX4_countAnswer 98 = .ok (.getfield 12, 3) := by decide +kernel
theorem dX4_countAnswer_101 : decode cX4_countAnswer 101 = .ok (.getfield 60, 3) := by decide +kernel
theorem dX4_countAnswer_104 : decode cX4_countAnswer 104 = .ok (.ireturn, 1) := by decide +kernel
theorem dX4_countAnswer_105 : decode cX4_countAnswer 105 = .ok (.aload_n 0, 1) := by decide +kernel
theorem dX4_countAnswer_106 : decode cX4_countAnswer 106 = .ok (.getfield 12, 3) := by decide +kernel
theorem dX4_countAnswer_109 : decode cX4_countAnswer 109 = .ok (.invokevirtual 163, 3) := by decide +kernel
theorem dX4_countAnswer_112 : decode cX4_countAnswer 112 = .ok (.ireturn, 1) := by decide +kernel
theorem dX4_countAnswer_113 : decode cX4_countAnswer 113 = .ok (.aload_n 0, 1) := by decide +kernel
theorem dX4_countAnswer_114 : decode cX4_countAnswer 114 = .ok (.invokevirtual 167, 3) := by decide +kernel
theorem dX4_countAnswer_117 : decode cX4_countAnswer 117 = .ok (.ireturn, 1) := by decide +kernel
theorem dX4_countAnswer_118 : decode cX4_countAnswer 118 = .ok (.aload_n 0, 1) := by decide +kernel
theorem dX4_countAnswer_119 : decode cX4_countAnswer 119 = .ok (.invokevirtual 170, 3) := by decide +kernel
theorem dX4_countAnswer_122 : decode cX4_countAnswer 122 = .ok (.ireturn, 1) := by decide +kernel
theorem dX4_invertedPlaces_0 : decode cX4_invertedPlaces 0 = .ok (.iconst 0, 1) := by decide +kernel
theorem dX4_invertedPlaces_1 : decode cX4_invertedPlaces 1 = .ok (.istore_n 1, 1) := by decide +kernel
theorem dX4_invertedPlaces_2 : decode cX4_invertedPlaces 2 = .ok (.iconst 0, 1) := by decide +kernel
theorem dX4_invertedPlaces_3 : decode cX4_invertedPlaces 3 = .ok (.istore_n 2, 1) := by decide +kernel
theorem dX4_invertedPlaces_4 : decode cX4_invertedPlaces 4 = .ok (.iload_n 2, 1) := by decide +kernel
theorem dX4_invertedPlaces_5 : decode cX4_invertedPlaces 5 = .ok (.bipush 30, 2) := by decide +kernel
theorem dX4_invertedPlaces_7 : decode cX4_invertedPlaces 7 = .ok (.if_icmp .ge 21, 3) := by decide +kernel
theorem dX4_invertedPlaces_10 : decode cX4_invertedPlaces 10 = .ok (.aload_n 0, 1) := by decide +kernel
theorem dX4_invertedPlaces_11 : decode cX4_invertedPlaces 11 = .ok (.getfield 23, 3) := by decide +kernel
theorem dX4_invertedPlaces_14 : decode cX4_invertedPlaces 14 = .ok (.iload_n 2, 1) := by decide +kernel
theorem dX4_invertedPlaces_15 : decode cX4_invertedPlaces 15 = .ok (.baload, 1) := by decide +kernel
theorem dX4_invertedPlaces_16 : decode cX4_invertedPlaces 16 = .ok (.ifCond .eq 6, 3) := by decide +kernel
theorem dX4_invertedPlaces_19 : decode cX4_invertedPlaces 19 = .ok (.iinc 1 1, 3) := by decide +kernel
theorem dX4_invertedPlaces_22 : decode cX4_invertedPlaces 22 = .ok (.iinc 2 1, 3) := by decide +kernel
theorem dX4_invertedPlaces_25 : decode cX4_invertedPlaces 25 = .ok (.goto (-21), 3) := by decide +kernel
theorem dX4_invertedPlaces_28 : decode cX4_invertedPlaces 28 = .ok (.iload_n 1, 1) := by decide +kernel
theorem dX4_invertedPlaces_29 : decode cX4_invertedPlaces 29 = .ok (.ireturn, 1) := by decide +kernel
set_option maxRecDepth 20000 in
theorem ggX4_worthOfSheets_X2_worth : GoodIn wsX4_worthOfSheets wsX2_worth := goodIn_r _ [7, 8, 9, 10, 6, 11, 12, 13, 19, 20] (by decide +kernel) (by decide +kernel)
set_option maxRecDepth 20000 in
theorem gX4_worthOfSheets_X2_worth : GoodIn wsX4_worthOfSheets (wsV RX4 173 RX2 yX2_worth wsX2_worth) := goodIn_app (goodIn_of _ (by decide +kernel)) ggX4_worthOfSheets_X2_worth
theorem dX4_worthOfSheets_0 : decode cX4_worthOfSheets 0 = .ok (.iconst 0, 1) := by decide +kernel
theorem dX4_worthOfSheets_1 : decode cX4_worthOfSheets 1 = .ok (.istore_n 1, 1) := by decide +kernel
theorem dX4_worthOfSheets_2 : decode cX4_worthOfSheets 2 = .ok (.iconst 0, 1) := by decide +kernel
theorem dX4_worthOfSheets_3 : decode cX4_worthOfSheets 3 = .ok (.istore_n 2, 1) := by decide +kernel
theorem dX4_worthOfSheets_4 : decode cX4_worthOfSheets 4 = .ok (.iload_n 2, 1) := by decide +kernel
theorem dX4_worthOfSheets_5 : decode cX4_worthOfSheets 5 = .ok (.aload_n 0, 1) := by decide +kernel
theorem dX4_worthOfSheets_6 : decode cX4_worthOfSheets 6 = .ok (.getfield 88, 3) := by decide +kernel
theorem dX4_worthOfSheets_9 : decode cX4_worthOfSheets 9 = .ok (.if_icmp .ge 21, 3) := by decide +kernel
theorem dX4_worthOfSheets_12 : decode cX4_worthOfSheets 12 = .ok (.iload_n 1, 1) := by decide +kernel
theorem dX4_worthOfSheets_13 : decode cX4_worthOfSheets 13 = .ok (.aload_n 0, 1) := by decide +kernel
theorem dX4_worthOfSheets_14 : decode cX4_worthOfSheets 14 = .ok (.getfield 29, 3) := by decide +kernel
theorem dX4_worthOfSheets_17 : decode cX4_worthOfSheets 17 = .ok (.iload_n 2, 1) := by decide +kernel
theorem dX4_worthOfSheets_18 : decode cX4_worthOfSheets 18 = .ok (.aaload, 1) := by decide +kernel
theorem dX4_worthOfSheets_19 : decode cX4_worthOfSheets 19 = .ok (.invokevirtual 173, 3) := by decide +kernel
theorem dX4_worthOfSheets_22 : decode cX4_worthOfSheets 22 = .ok (.iadd, 1) := by decide +kernel
theorem dX4_worthOfSheets_23 : decode cX4_worthOfSheets 23 = .ok (.istore_n 1, 1) := by decide +kernel
theorem dX4_worthOfSheets_24 : decode cX4_worthOfSheets 24 = .ok (.iinc 2 1, 3) := by decide +kernel
theorem dX4_worthOfSheets_27 : decode cX4_worthOfSheets 27 = .ok (.goto (-23), 3) := by decide +kernel
theorem dX4_worthOfSheets_30 : decode cX4_worthOfSheets 30 = .ok (.iload_n 1, 1) := by decide +kernel
theorem dX4_worthOfSheets_31 : decode cX4_worthOfSheets 31 = .ok (.ireturn, 1) := by decide +kernel
set_option maxRecDepth 20000 in
theorem ggX4_stampsWith_X2_leftWith : GoodIn wsX4_stampsWith wsX2_leftWith := goodIn_r _ [7, 8, 9, 10, 6, 11, 12, 13, 19, 20] (by decide +kernel) (by decide +kernel)
set_option maxRecDepth 20000 in
theorem gX4_stampsWith_X2_leftWith : GoodIn wsX4_stampsWith (wsV RX4 176 RX2 yX2_leftWith wsX2_leftWith) := goodIn_app (goodIn_of _ (by decide +kernel)) ggX4_stampsWith_X2_leftWith
theorem dX4_stampsWith_0 : decode cX4_stampsWith 0 = .ok (.iconst 0, 1) := by decide +kernel
theorem dX4_stampsWith_1 : decode cX4_stampsWith 1 = .ok (.istore_n 2, 1) := by decide +kernel
theorem dX4_stampsWith_2 : decode cX4_stampsWith 2 = .ok (.iconst 0, 1) := by decide +kernel
theorem dX4_stampsWith_3 : decode cX4_stampsWith 3 = .ok (.istore_n 3, 1) := by decide +kernel
theorem dX4_stampsWith_4 : decode cX4_stampsWith 4 = .ok (.iload_n 3, 1) := by decide +kernel
theorem dX4_stampsWith_5 : decode cX4_stampsWith 5 = .ok (.aload_n 0, 1) := by decide +kernel
theorem dX4_stampsWith_6 : decode cX4_stampsWith 6 = .ok (.getfield 88, 3) := by decide +kernel
theorem dX4_stampsWith_9 : decode cX4_stampsWith 9 = .ok (.if_icmp .ge 22, 3) := by decide +kernel
theorem dX4_stampsWith_12 : decode cX4_stampsWith 12 = .ok (.iload_n 2, 1) := by decide +kernel
theorem dX4_stampsWith_13 : decode cX4_stampsWith 13 = .ok (.aload_n 0, 1) := by decide +kernel
theorem dX4_stampsWith_14 : decode cX4_stampsWith 14 = .ok (.getfield 29, 3) := by decide +kernel
theorem dX4_stampsWith_17 : decode cX4_stampsWith 17 = .ok (.iload_n 3, 1) := by decide +kernel
theorem dX4_stampsWith_18 : decode cX4_stampsWith 18 = .ok (.aaload, 1) := by decide +kernel
theorem dX4_stampsWith_19 : decode cX4_stampsWith 19 = .ok (.iload_n 1, 1) := by decide +kernel
theorem dX4_stampsWith_20 : decode cX4_stampsWith 20 = .ok (.invokevirtual 176, 3) := by decide +kernel
theorem dX4_stampsWith_23 : decode cX4_stampsWith 23 = .ok (.iadd, 1) := by decide +kernel
theorem dX4_stampsWith_24 : decode cX4_stampsWith 24 = .ok (.istore_n 2, 1) := by decide +kernel
theorem dX4_stampsWith_25 : decode cX4_stampsWith 25 = .ok (.iinc 3 1, 3) := by decide +kernel
theorem dX4_stampsWith_28 : decode cX4_stampsWith 28 = .ok (.goto (-24), 3) := by decide +kernel
theorem dX4_stampsWith_31 : decode cX4_stampsWith 31 = .ok (.iload_n 2, 1) := by decide +kernel
theorem dX4_stampsWith_32 : decode cX4_stampsWith 32 = .ok (.ireturn, 1) := by decide +kernel
theorem dX5_init_0 : decode cX5_init 0 = .ok (.aload_n 0, 1) := by decide +kernel
theorem dX5_init_1 : decode cX5_init 1 = .ok (.invokespecial 1, 3) := by decide +kernel
theorem dX5_init_4 : decode cX5_init 4 = .ok (.aload_n 0, 1) := by decide +kernel
theorem dX5_init_5 : decode cX5_init 5 = .ok (.sipush 600, 3) := by decide +kernel
theorem dX5_init_8 : decode cX5_init 8 = .ok (.newarray .int, 2) := by decide +kernel
theorem dX5_init_10 : decode cX5_init 10 = .ok (.putfield 9, 3) := by decide +kernel
theorem dX5_init_13 : decode cX5_init 13 = .ok (.aload_n 0, 1) := by decide +kernel
theorem dX5_init_14 : decode cX5_init 14 = .ok (.bipush 6, 2) := by decide +kernel
theorem dX5_init_16 : decode cX5_init 16 = .ok (.newarray .int, 2) := by decide +kernel
theorem dX5_init_18 : decode cX5_init 18 = .ok (.dup, 1) := by decide +kernel
theorem dX5_init_19 : decode cX5_init 19 = .ok (.iconst 0, 1) := by decide +kernel
theorem dX5_init_20 : decode cX5_init 20 = .ok (.bipush 20, 2) := by decide +kernel
theorem dX5_init_22 : decode cX5_init 22 = .ok (.iastore, 1) := by decide +kernel
theorem dX5_init_23 : decode cX5_init 23 = .ok (.dup, 1) := by decide +kernel
theorem dX5_init_24 : decode cX5_init 24 = .ok (.iconst 1, 1) := by decide +kernel
theorem dX5_init_25 : decode cX5_init 25 = .ok (.iconst 0, 1) := by decide +kernel
theorem dX5_init_26 : decode cX5_init 26 = .ok (.iastore, 1) := by decide +kernel
theorem dX5_init_27 : decode cX5_init 27 = .ok (.dup, 1) := by decide +kernel
theorem dX5_init_28 : decode cX5_init 28 = .ok (.iconst 2, 1) := by decide +kernel
theorem dX5_init_29 : decode cX5_init 29 = .ok (.iconst 0, 1) := by decide +kernel
theorem dX5_init_30 : decode cX5_init 30 = .ok (.iastore, 1) := by decide +kernel
theorem dX5_init_31 : decode cX5_init 31 = .ok (.dup, 1) := by decide +kernel
theorem dX5_init_32 : decode cX5_init 32 = .ok (.iconst 3, 1) := by decide +kernel
theorem dX5_init_33 : decode cX5_init 33 = .ok (.iconst 0, 1) := by decide +kernel
theorem dX5_init_34 : decode cX5_init 34 = .ok (.iastore, 1) := by decide +kernel
theorem dX5_init_35 : decode cX5_init 35 = .ok (.dup, 1) := by decide +kernel
theorem dX5_init_36 : decode cX5_init 36 = .ok (.iconst 4, 1) := by decide +kernel
theorem dX5_init_37 : decode cX5_init 37 = .ok (.iconst 1, 1) := by decide +kernel
theorem dX5_init_38 : decode cX5_init 38 = .ok (.iastore, 1) := by decide +kernel
theorem dX5_init_39 : decode cX5_init 39 = .ok (.dup, 1) := by decide +kernel
theorem dX5_init_40 : decode cX5_init 40 = .ok (.iconst 5, 1) := by decide +kernel
theorem dX5_init_41 : decode cX5_init 41 = .ok (.iconst 0, 1) := by decide +kernel
theorem dX5_init_42 : decode cX5_init 42 = .ok (.iastore, 1) := by decide +kernel
theorem dX5_init_43 : decode cX5_init 43 = .ok (.putfield 13, 3) := by decide +kernel
theorem dX5_init_46 : decode cX5_init 46 = .ok (.aload_n 0, 1) := by decide +kernel
theorem dX5_init_47 : decode cX5_init 47 = .ok (.bipush 7, 2) := by decide +kernel
theorem dX5_init_49 : decode cX5_init 49 = .ok (.newarray .int, 2) := by decide +kernel
theorem dX5_init_51 : decode cX5_init 51 = .ok (.putfield 16, 3) := by decide +kernel
theorem dX5_init_54 : decode cX5_init 54 = .ok (.aload_n 0, 1) := by decide +kernel
theorem dX5_init_55 : decode cX5_init 55 = .ok (.bipush 7, 2) := by decide +kernel
theorem dX5_init_57 : decode cX5_init 57 = .ok (.newarray .int, 2) := by decide +kernel
theorem dX5_init_59 : decode cX5_init 59 = .ok (.putfield 19, 3) := by decide +kernel
theorem dX5_init_62 : decode cX5_init 62 = .ok (.aload_n 0, 1) := by decide +kernel
theorem dX5_init_63 : decode cX5_init 63 = .ok (.bipush 30, 2) := by decide +kernel
theorem dX5_init_65 : decode cX5_init 65 = .ok (.newarray .boolean, 2) := by decide +kernel
theorem dX5_init_67 : decode cX5_init 67 = .ok (.putfield 22, 3) := by decide +kernel
theorem dX5_init_70 : decode cX5_init 70 = .ok (.aload_n 0, 1) := by decide +kernel
theorem dX5_init_71 : decode cX5_init 71 = .ok (.bipush 30, 2) := by decide +kernel
theorem dX5_init_73 : decode cX5_init 73 = .ok (.newarray .int, 2) := by decide +kernel
theorem dX5_init_75 : decode cX5_init 75 = .ok (.putfield 26, 3) := by decide +kernel
theorem dX5_init_78 : decode cX5_init 78 = .ok (.iconst 0, 1) := by decide +kernel
theorem dX5_init_79 : decode cX5_init 79 = .ok (.istore_n 1, 1) := by decide +kernel
theorem dX5_init_80 : decode cX5_init 80 = .ok (.iload_n 1, 1) := by decide +kernel
