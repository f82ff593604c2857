theorem dX4_run_29 : decode cX4_run 29 = .ok (.athrow, 1) := by decide +kernel
theorem dX4_run_30 : decode cX4_run 30 = .ok (.aload_n 0, 1) := by decide +kernel
theorem dX4_run_31 : decode cX4_run 31 = .ok (.getfield 12, 3) := by decide +kernel
theorem dX4_run_34 : decode cX4_run 34 = .ok (.aload_n 0, 1) := by decide +kernel
theorem dX4_run_35 : decode cX4_run 35 = .ok (.getfield 23, 3) := by decide +kernel
theorem dX4_run_38 : decode cX4_run 38 = .ok (.aload_n 0, 1) := by decide +kernel
theorem dX4_run_39 : decode cX4_run 39 = .ok (.getfield 29, 3) := by decide +kernel
theorem dX4_run_42 : decode cX4_run 42 = .ok (.aload_n 0, 1) := by decide +kernel
theorem dX4_run_43 : decode cX4_run 43 = .ok (.getfield 88, 3) := by decide +kernel
theorem dX4_run_46 : decode cX4_run 46 = .ok (.aaload, 1) := by decide +kernel
theorem dX4_run_47 : decode cX4_run 47 = .ok (.invokevirtual 96, 3) := by decide +kernel
theorem dX4_run_50 : decode cX4_run 50 = .ok (.aload_n 0, 1) := by decide +kernel
theorem dX4_run_51 : decode cX4_run 51 = .ok (.dup, 1) := by decide +kernel
theorem dX4_run_52 : decode cX4_run 52 = .ok (.getfield 88, 3) := by decide +kernel
theorem dX4_run_55 : decode cX4_run 55 = .ok (.iconst 1, 1) := by decide +kernel
theorem dX4_run_56 : decode cX4_run 56 = .ok (.iadd, 1) := by decide +kernel
theorem dX4_run_57 : decode cX4_run 57 = .ok (.putfield 88, 3) := by decide +kernel
theorem dX4_run_60 : decode cX4_run 60 = .ok (.aload_n 0, 1) := by decide +kernel
theorem dX4_run_61 : decode cX4_run 61 = .ok (.getfield 88, 3) := by decide +kernel
theorem dX4_run_64 : decode cX4_run 64 = .ok (.iconst 1, 1) := by decide +kernel
theorem dX4_run_65 : decode cX4_run 65 = .ok (.isub, 1) := by decide +kernel
theorem dX4_run_66 : decode cX4_run 66 = .ok (.ireturn, 1) := by decide +kernel
set_option maxRecDepth 20000 in
theorem ggX4_faults_X4_checkSheet : GoodIn wsX4_faults wsX4_checkSheet := goodIn_ca (goodIn_r _ [6, 7, 8, 9, 10, 11, 5, 12, 16, 17, 18, 19, 20] (by decide +kernel) (by decide +kernel)) (goodIn_sub (fun _ h => List.mem_cons_of_mem _ (List.mem_append_right _ h)) (by decide +kernel))
set_option maxRecDepth 20000 in
theorem gX4_faults_X4_checkSheet : GoodIn wsX4_faults (wsV RX4 100 RX4 yX4_checkSheet wsX4_checkSheet) := goodIn_app (goodIn_of _ (by decide +kernel)) ggX4_faults_X4_checkSheet
set_option maxRecDepth 20000 in
theorem ggX4_faults_X4_checkPlace : GoodIn wsX4_faults wsX4_checkPlace := goodIn_ca (goodIn_r _ [15, 7, 8, 10, 11, 5, 12] (by decide +kernel) (by decide +kernel)) (goodIn_sub (fun _ h => List.mem_cons_of_mem _ (List.mem_append_right _ h)) (by decide +kernel))
set_option maxRecDepth 20000 in
theorem gX4_faults_X4_checkPlace : GoodIn wsX4_faults (va_wsS RX4 84 yX4_checkPlace wsX4_checkPlace) := goodIn_app (goodIn_of _ (by decide +kernel)) ggX4_faults_X4_checkPlace
theorem dX4_faults_0 : decode cX4_faults 0 = .ok (.aload_n 0, 1) := by decide +kernel
theorem dX4_faults_1 : decode cX4_faults 1 = .ok (.iload_n 1, 1) := by decide +kernel
theorem dX4_faults_2 : decode cX4_faults 2 = .ok (.invokevirtual 100, 3) := by decide +kernel
theorem dX4_faults_5 : decode cX4_faults 5 = .ok (.iload_n 2, 1) := by decide +kernel
theorem dX4_faults_6 : decode cX4_faults 6 = .ok (.iload_n 3, 1) := by decide +kernel
theorem dX4_faults_7 : decode cX4_faults 7 = .ok (.invokestatic 84, 3) := by decide +kernel
theorem dX4_faults_10 : decode cX4_faults 10 = .ok (.aload_n 0, 1) := by decide +kernel
theorem dX4_faults_11 : decode cX4_faults 11 = .ok (.getfield 29, 3) := by decide +kernel
theorem dX4_faults_14 : decode cX4_faults 14 = .ok (.iload_n 1, 1) := by decide +kernel
theorem dX4_faults_15 : decode cX4_faults 15 = .ok (.aaload, 1) := by decide +kernel
theorem dX4_faults_16 : decode cX4_faults 16 = .ok (.getfield 103, 3) := by decide +kernel
theorem dX4_faults_19 : decode cX4_faults 19 = .ok (.bipush 6, 2) := by decide +kernel
theorem dX4_faults_21 : decode cX4_faults 21 = .ok (.iload_n 2, 1) := by decide +kernel
theorem dX4_faults_22 : decode cX4_faults 22 = .ok (.imul, 1) := by decide +kernel
theorem dX4_faults_23 : decode cX4_faults 23 = .ok (.iload_n 3, 1) := by decide +kernel
theorem dX4_faults_24 : decode cX4_faults 24 = .ok (.iadd, 1) := by decide +kernel
theorem dX4_faults_25 : decode cX4_faults 25 = .ok (.iaload, 1) := by decide +kernel
theorem dX4_faults_26 : decode cX4_faults 26 = .ok (.ireturn, 1) := by decide +kernel
set_option maxRecDepth 20000 in
theorem ggX4_tear_X4_checkSheet : GoodIn wsX4_tear wsX4_checkSheet := goodIn_ca (goodIn_r _ [8, 9, 10, 11, 12, 13, 7, 14, 25, 26, 27, 28, 29] (by decide +kernel) (by decide +kernel)) (goodIn_sub (fun _ h => List.mem_cons_of_mem _ (List.mem_append_right _ h)) (by decide +kernel))
set_option maxRecDepth 20000 in
theorem gX4_tear_X4_checkSheet : GoodIn wsX4_tear (wsV RX4 100 RX4 yX4_checkSheet wsX4_checkSheet) := goodIn_app (goodIn_of _ (by decide +kernel)) ggX4_tear_X4_checkSheet
set_option maxRecDepth 20000 in
theorem ggX4_tear_X4_checkPlace : GoodIn wsX4_tear wsX4_checkPlace := goodIn_ca (goodIn_r _ [17, 9, 10, 12, 13, 7, 14] (by decide +kernel) (by decide +kernel)) (goodIn_sub (fun _ h => List.mem_cons_of_mem _ (List.mem_append_right _ h)) (by decide +kernel))
set_option maxRecDepth 20000 in
theorem gX4_tear_X4_checkPlace : GoodIn wsX4_tear (va_wsS RX4 84 yX4_checkPlace wsX4_checkPlace) := goodIn_app (goodIn_of _ (by decide +kernel)) ggX4_tear_X4_checkPlace
set_option maxRecDepth 20000 in
theorem ggX4_tear_X2_worthOf : GoodIn wsX4_tear wsX2_worthOf := goodIn_r _ [22, 23, 24, 30, 31] (by decide +kernel) (by decide +kernel)
set_option maxRecDepth 20000 in
theorem gX4_tear_X2_worthOf : GoodIn wsX4_tear (wsV RX4 112 RX2 yX2_worthOf wsX2_worthOf) := goodIn_app (goodIn_of _ (by decide +kernel)) ggX4_tear_X2_worthOf
theorem dX4_tear_0 : decode cX4_tear 0 = .ok (.aload_n 0, 1) := by decide +kernel
theorem dX4_tear_1 : decode cX4_tear 1 = .ok (.iload_n 1, 1) := by decide +kernel
theorem dX4_tear_2 : decode cX4_tear 2 = .ok (.invokevirtual 100, 3) := by decide +kernel
theorem dX4_tear_5 : decode cX4_tear 5 = .ok (.iload_n 2, 1) := by decide +kernel
theorem dX4_tear_6 : decode cX4_tear 6 = .ok (.iload_n 3, 1) := by decide +kernel
theorem dX4_tear_7 : decode cX4_tear 7 = .ok (.invokestatic 84, 3) := by decide +kernel
theorem dX4_tear_10 : decode cX4_tear 10 = .ok (.aload_n 0, 1) := by decide +kernel
theorem dX4_tear_11 : decode cX4_tear 11 = .ok (.getfield 29, 3) := by decide +kernel
theorem dX4_tear_14 : decode cX4_tear 14 = .ok (.iload_n 1, 1) := by decide +kernel
theorem dX4_tear_15 : decode cX4_tear 15 = .ok (.aaload, 1) := by decide +kernel
theorem dX4_tear_16 : decode cX4_tear 16 = .ok (.astore 4, 2) := by decide +kernel
theorem dX4_tear_18 : decode cX4_tear 18 = .ok (.bipush 6, 2) := by decide +kernel
theorem dX4_tear_20 : decode cX4_tear 20 = .ok (.iload_n 2, 1) := by decide +kernel
theorem dX4_tear_21 : decode cX4_tear 21 = .ok (.imul, 1) := by decide +kernel
theorem dX4_tear_22 : decode cX4_tear 22 = .ok (.iload_n 3, 1) := by decide +kernel
theorem dX4_tear_23 : decode cX4_tear 23 = .ok (.iadd, 1) := by decide +kernel
theorem dX4_tear_24 : decode cX4_tear 24 = .ok (.istore 5, 2) := by decide +kernel
theorem dX4_tear_26 : decode cX4_tear 26 = .ok (.aload 4, 2) := by decide +kernel
theorem dX4_tear_28 : decode cX4_tear 28 = .ok (.getfield 107, 3) := by decide +kernel
theorem dX4_tear_31 : decode cX4_tear 31 = .ok (.iload 5, 2) := by decide +kernel
theorem dX4_tear_33 : decode cX4_tear 33 = .ok (.baload, 1) := by decide +kernel
theorem dX4_tear_34 : decode cX4_tear 34 = .ok (.ifCond .eq 13, 3) := by decide +kernel
theorem dX4_tear_37 : decode cX4_tear 37 = .ok (.new 91, 3) := by decide +kernel
theorem dX4_tear_40 : decode cX4_tear 40 = .ok (.dup, 1) := by decide +kernel
theorem dX4_tear_41 : decode cX4_tear 41 = .ok (.ldc 110, 2) := by decide +kernel
theorem dX4_tear_43 : decode cX4_tear 43 = .ok (.invokespecial 95, 3) := by decide +kernel
theorem dX4_tear_46 : decode cX4_tear 46 = .ok (.athrow, 1) := by decide +kernel
theorem dX4_tear_47 : decode cX4_tear 47 = .ok (.aload 4, 2) := by decide +kernel
theorem dX4_tear_49 : decode cX4_tear 49 = .ok (.iload 5, 2) := by decide +kernel
theorem dX4_tear_51 : decode cX4_tear 51 = .ok (.invokevirtual 112, 3) := by decide +kernel
theorem dX4_tear_54 : decode cX4_tear 54 = .ok (.istore 6, 2) := by decide +kernel
theorem dX4_tear_56 : decode cX4_tear 56 = .ok (.aload 4, 2) := by decide +kernel
theorem dX4_tear_58 : decode cX4_tear 58 = .ok (.getfield 107, 3) := by decide +kernel
theorem dX4_tear_61 : decode cX4_tear 61 = .ok (.iload 5, 2) := by decide +kernel
theorem dX4_tear_63 : decode cX4_tear 63 = .ok (.iconst 1, 1) := by decide +kernel
theorem dX4_tear_64 : decode cX4_tear 64 = .ok (.bastore, 1) := by decide +kernel
theorem dX4_tear_65 : decode cX4_tear 65 = .ok (.iload 6, 2) := by decide +kernel
theorem dX4_tear_67 : decode cX4_tear 67 = .ok (.ireturn, 1) := by decide +kernel
set_option maxRecDepth 20000 in
theorem ggX4_sheet_X4_checkSheet : GoodIn wsX4_sheet wsX4_checkSheet := goodIn_ca (goodIn_r _ [6, 7, 8, 9, 10, 11, 5, 12, 70, 71, 72, 73, 74] (by decide +kernel) (by decide +kernel)) (goodIn_sub (fun _ h => List.mem_cons_of_mem _ (List.mem_append_right _ h)) (by decide +kernel))
set_option maxRecDepth 20000 in
theorem gX4_sheet_X4_checkSheet : GoodIn wsX4_sheet (wsV RX4 100 RX4 yX4_checkSheet wsX4_checkSheet) := goodIn_app (goodIn_of _ (by decide +kernel)) ggX4_sheet_X4_checkSheet
set_option maxRecDepth 20000 in
theorem ggX4_sheet_X4_checkWhat : GoodIn wsX4_sheet wsX4_checkWhat := goodIn_ca (goodIn_r _ [15, 7, 8, 10, 11, 5, 12] (by decide +kernel) (by decide +kernel)) (goodIn_sub (fun _ h => List.mem_cons_of_mem _ (List.mem_append_right _ h)) (by decide +kernel))
set_option maxRecDepth 20000 in
theorem gX4_sheet_X4_checkWhat : GoodIn wsX4_sheet (va_wsS RX4 116 yX4_checkWhat wsX4_checkWhat) := goodIn_app (goodIn_of _ (by decide +kernel)) ggX4_sheet_X4_checkWhat
set_option maxRecDepth 20000 in
theorem ggX4_sheet_X2_answer : GoodIn wsX4_sheet wsX2_answer := goodIn_r _ [20, 21, 22, 23, 19, 24, 25, 26, 27, 28, 29, 30, 31, 32, 33, 34, 35, 36, 37, 38, 39, 40, 41, 42, 43, 44, 45, 46, 47, 48, 49, 50, 51, 52, 53, 54, 55, 56, 57, 58, 59, 60, 61, 62, 63, 64, 65, 66, 67, 68, 69, 75, 76] (by decide +kernel) (by decide +kernel)
set_option maxRecDepth 20000 in
theorem gX4_sheet_X2_answer : GoodIn wsX4_sheet (wsV RX4 119 RX2 yX2_answer wsX2_answer) := goodIn_app (goodIn_of _ (by decide +kernel)) ggX4_sheet_X2_answer
theorem dX4_sheet_0 : decode cX4_sheet 0 = .ok (.aload_n 0, 1) := by decide +kernel
theorem dX4_sheet_1 : decode cX4_sheet 1 = .ok (.iload_n 1, 1) := by decide +kernel
theorem dX4_sheet_2 : decode cX4_sheet 2 = .ok (.invokevirtual 100, 3) := by decide +kernel
theorem dX4_sheet_5 : decode cX4_sheet 5 = .ok (.iload_n 2, 1) := by decide +kernel
theorem dX4_sheet_6 : decode cX4_sheet 6 = .ok (.bipush 6, 2) := by decide +kernel
theorem dX4_sheet_8 : decode cX4_sheet 8 = .ok (.invokestatic 116, 3) := by decide +kernel
theorem dX4_sheet_11 : decode cX4_sheet 11 = .ok (.aload_n 0, 1) := by decide +kernel
theorem dX4_sheet_12 : decode cX4_sheet 12 = .ok (.getfield 29, 3) := by decide +kernel
theorem dX4_sheet_15 : decode cX4_sheet 15 = .ok (.iload_n 1, 1) := by decide +kernel
theorem dX4_sheet_16 : decode cX4_sheet 16 = .ok (.aaload, 1) := by decide +kernel
theorem dX4_sheet_17 : decode cX4_sheet 17 = .ok (.iload_n 2, 1) := by decide +kernel
theorem dX4_sheet_18 : decode cX4_sheet 18 = .ok (.invokevirtual 119, 3) := by decide +kernel
theorem dX4_sheet_21 : decode cX4_sheet 21 = .ok (.ireturn, 1) := by decide +kernel
set_option maxRecDepth 20000 in
theorem ggX4_pin_X4_checkPin : GoodIn wsX4_pin wsX4_checkPin := goodIn_ca (goodIn_r _ [5, 6, 7, 8, 9, 4, 10] (by decide +kernel) (by decide +kernel)) (goodIn_sub (fun _ h => List.mem_cons_of_mem _ (List.mem_append_right _ h)) (by decide +kernel))
set_option maxRecDepth 20000 in
theorem gX4_pin_X4_checkPin : GoodIn wsX4_pin (va_wsS RX4 66 yX4_checkPin wsX4_checkPin) := goodIn_app (goodIn_of _ (by decide +kernel)) ggX4_pin_X4_checkPin
set_option maxRecDepth 20000 in
theorem ggX4_pin_X4_checkWhat : GoodIn wsX4_pin wsX4_checkWhat := goodIn_ca (goodIn_r _ [13, 6, 7, 8, 9, 4, 10] (by decide +kernel) (by decide +kernel)) (goodIn_sub (fun _ h => List.mem_cons_of_mem _ (List.mem_append_right _ h)) (by decide +kernel))
set_option maxRecDepth 20000 in
theorem gX4_pin_X4_checkWhat : GoodIn wsX4_pin (va_wsS RX4 116 yX4_checkWhat wsX4_checkWhat) := goodIn_app (goodIn_of _ (by decide +kernel)) ggX4_pin_X4_checkWhat
set_option maxRecDepth 20000 in
theorem ggX4_pin_X1_answer : GoodIn wsX4_pin wsX1_answer := goodIn_r _ [18, 19, 20, 21, 22, 23, 17, 24, 37, 38] (by decide +kernel) (by decide +kernel)
set_option maxRecDepth 20000 in
theorem gX4_pin_X1_answer : GoodIn wsX4_pin (wsV RX4 122 RX1 yX1_answer wsX1_answer) := goodIn_app (goodIn_of _ (by decide +kernel)) ggX4_pin_X1_answer
theorem dX4_pin_0 : decode cX4_pin 0 = .ok (.iload_n 1, 1) := by decide +kernel
theorem dX4_pin_1 : decode cX4_pin 1 = .ok (.invokestatic 66, 3) := by decide +kernel
theorem dX4_pin_4 : decode cX4_pin 4 = .ok (.iload_n 2, 1) := by decide +kernel
theorem dX4_pin_5 : decode cX4_pin 5 = .ok (.iconst 4, 1) := by decide +kernel
theorem dX4_pin_6 : decode cX4_pin 6 = .ok (.invokestatic 116, 3) := by decide +kernel
theorem dX4_pin_9 : decode cX4_pin 9 = .ok (.aload_n 0, 1) := by decide +kernel
theorem dX4_pin_10 : decode cX4_pin 10 = .ok (.getfield 12, 3) := by decide +kernel
theorem dX4_pin_13 : decode cX4_pin 13 = .ok (.getfield 72, 3) := by decide +kernel
theorem dX4_pin_16 : decode cX4_pin 16 = .ok (.iload_n 1, 1) := by decide +kernel
theorem dX4_pin_17 : decode cX4_pin 17 = .ok (.aaload, 1) := by decide +kernel
theorem dX4_pin_18 : decode cX4_pin 18 = .ok (.iload_n 2, 1) := by decide +kernel
theorem dX4_pin_19 : decode cX4_pin 19 = .ok (.invokevirtual 122, 3) := by decide +kernel
theorem dX4_pin_22 : decode cX4_pin 22 = .ok (.ireturn, 1) := by decide +kernel
set_option maxRecDepth 20000 in
theorem ggX4_count_X4_checkWhat : GoodIn wsX4_count wsX4_checkWhat := goodIn_ca (goodIn_r _ [4, 5, 6, 7, 8, 3, 9] (by decide +kernel) (by decide +kernel)) (goodIn_sub (fun _ h => List.mem_cons_of_mem _ (List.mem_append_right _ h)) (by decide +kernel))
set_option maxRecDepth 20000 in
theorem gX4_count_X4_checkWhat : GoodIn wsX4_count (va_wsS RX4 116 yX4_checkWhat wsX4_checkWhat) := goodIn_app (goodIn_of _ (by decide +kernel)) ggX4_count_X4_checkWhat
set_option maxRecDepth 20000 in
theorem ggX4_count_X4_countAnswer : GoodIn wsX4_count wsX4_countAnswer := goodIn_r _ [13, 14, 15, 16, 17, 18, 19, 20, 21, 22, 23, 24, 25, 26, 27, 28, 29, 30, 31, 3, 32, 33, 34, 35, 36, 37, 38, 39, 40, 41, 42, 43, 44, 45, 46, 47, 48, 49, 50, 51, 52, 53, 54, 55, 56, 57, 58, 59, 60, 61, 62, 63, 64, 65] (by decide +kernel) (by decide +kernel)
set_option maxRecDepth 20000 in
theorem gX4_count_X4_countAnswer : GoodIn wsX4_count (wsV RX4 123 RX4 yX4_countAnswer wsX4_countAnswer) := goodIn_app (goodIn_of _ (by decide +kernel)) ggX4_count_X4_countAnswer
theorem dX4_count_0 : decode cX4_count 0 = .ok (.iload_n 1, 1) := by decide +kernel
theorem dX4_count_1 : decode cX4_count 1 = .ok (.bipush 10, 2) := by decide +kernel
theorem dX4_count_3 : decode cX4_count 3 = .ok (.invokestatic 116, 3) := by decide +kernel
theorem dX4_count_6 : decode cX4_count 6 = .ok (.aload_n 0, 1) := by decide +kernel
theorem dX4_count_7 : decode cX4_count 7 = .ok (.iload_n 1, 1) := by decide +kernel
theorem dX4_count_8 : decode cX4_count 8 = .ok (.invokevirtual 123, 3) := by decide +kernel
theorem dX4_count_11 : decode cX4_count 11 = .ok (.ireturn, 1) := by decide +kernel
set_option maxRecDepth 20000 in
theorem ggX4_foresee_X4_checkSheetsToRun : GoodIn wsX4_foresee wsX4_checkSheetsToRun := goodIn_ca (goodIn_r _ [7, 8, 9, 10, 11, 6, 12] (by decide +kernel) (by decide +kernel)) (goodIn_sub (fun _ h => List.mem_cons_of_mem _ (List.mem_append_left _ (List.mem_append_right _ h))) (by decide +kernel))
set_option maxRecDepth 20000 in
theorem gX4_foresee_X4_checkSheetsToRun : GoodIn wsX4_foresee (va_wsS RX4 126 yX4_checkSheetsToRun wsX4_checkSheetsToRun) := goodIn_app (goodIn_of _ (by decide +kernel)) ggX4_foresee_X4_checkSheetsToRun
set_option maxRecDepth 20000 in
theorem ggX4_foresee_X4_checkWhat : GoodIn wsX4_foresee wsX4_checkWhat := goodIn_ca (goodIn_r _ [15, 16, 17, 10, 11, 6, 12] (by decide +kernel) (by decide +kernel)) (goodIn_sub (fun _ h => List.mem_cons_of_mem _ (List.mem_append_right _ h)) (by decide +kernel))
set_option maxRecDepth 20000 in
theorem gX4_foresee_X4_checkWhat : GoodIn wsX4_foresee (va_wsS RX4 116 yX4_checkWhat wsX4_checkWhat) := goodIn_app (goodIn_of _ (by decide +kernel)) ggX4_foresee_X4_checkWhat
set_option maxRecDepth 20000 in
theorem ggX4_foresee_X3_perforateFrom : GoodIn wsX4_foresee wsX3_perforateFrom := goodIn_r _ [22, 23, 24, 25, 26, 27, 28, 29, 30, 31, 32, 33, 34, 35, 36, 37, 38, 39, 40, 41, 42, 43, 44, 45, 46, 47, 48, 49, 50, 51, 52, 53, 54, 55, 56, 57, 58, 59, 60, 11, 6, 12, 61, 62, 63, 64, 65, 66, 67, 68, 69, 70, 71, 72, 73, 74, 75, 76, 77, 78, 79, 80, 81, 82, 83, 84, 85, 86, 87, 88, 89, 90, 91, 92, 93, 94, 95, 96, 97, 98, 99, 100, 121, 122, 123, 124, 114, 115, 116, 117, 118, 119, 120, 125, 126, 127, 128] (by decide +kernel) (by decide +kernel)
set_option maxRecDepth 20000 in
theorem gX4_foresee_X3_perforateFrom : GoodIn wsX4_foresee (wsV RX4 129 RX3 yX3_perforateFrom wsX3_perforateFrom) := goodIn_app (goodIn_of _ (by decide +kernel)) ggX4_foresee_X3_perforateFrom
set_option maxRecDepth 20000 in
theorem ggX4_foresee_X3_answer : GoodIn wsX4_foresee wsX3_answer := goodIn_r _ [104, 24, 25, 23, 105, 106, 107, 30, 108, 32, 65, 66, 67, 42, 68, 45, 44, 121, 122, 123, 124, 114, 115, 116, 117, 118, 119, 120, 125, 126] (by decide +kernel) (by decide +kernel)
set_option maxRecDepth 20000 in
theorem gX4_foresee_X3_answer : GoodIn wsX4_foresee (wsV RX4 133 RX3 yX3_answer wsX3_answer) := goodIn_app (goodIn_of _ (by decide +kernel)) ggX4_foresee_X3_answer
theorem dX4_foresee_0 : decode cX4_foresee 0 = .ok (.iload_n 1, 1) := by decide +kernel
theorem dX4_foresee_1 : decode cX4_foresee 1 = .ok (.invokestatic 126, 3) := by decide +kernel
theorem dX4_foresee_4 : decode cX4_foresee 4 = .ok (.iload_n 2, 1) := by decide +kernel
theorem dX4_foresee_5 : decode cX4_foresee 5 = .ok (.iconst 4, 1) := by decide +kernel
theorem dX4_foresee_6 : decode cX4_foresee 6 = .ok (.invokestatic 116, 3) := by decide +kernel
theorem dX4_foresee_9 : decode cX4_foresee 9 = .ok (.aload_n 0, 1) := by decide +kernel
theorem dX4_foresee_10 : decode cX4_foresee 10 = .ok (.getfield 19, 3) := by decide +kernel
theorem dX4_foresee_13 : decode cX4_foresee 13 = .ok (.aload_n 0, 1) := by decide +kernel
theorem dX4_foresee_14 : decode cX4_foresee 14 = .ok (.getfield 12, 3) := by decide +kernel
theorem dX4_foresee_17 : decode cX4_foresee 17 = .ok (.aload_n 0, 1) := by decide +kernel
theorem dX4_foresee_18 : decode cX4_foresee 18 = .ok (.getfield 12, 3) := by decide +kernel
theorem dX4_foresee_21 : decode cX4_foresee 21 = .ok (.getfield 45, 3) := by decide +kernel
theorem dX4_foresee_24 : decode cX4_foresee 24 = .ok (.aload_n 0, 1) := by decide +kernel
theorem dX4_foresee_25 : decode cX4_foresee 25 = .ok (.getfield 23, 3) := by decide +kernel
theorem dX4_foresee_28 : decode cX4_foresee 28 = .ok (.iload_n 1, 1) := by decide +kernel
theorem dX4_foresee_29 : decode cX4_foresee 29 = .ok (.invokevirtual 129, 3) := by decide +kernel
theorem dX4_foresee_32 : decode cX4_foresee 32 = .ok (.aload_n 0, 1) := by decide +kernel
theorem dX4_foresee_33 : decode cX4_foresee 33 = .ok (.getfield 19, 3) := by decide +kernel
theorem dX4_foresee_36 : decode cX4_foresee 36 = .ok (.iload_n 2, 1) := by decide +kernel
theorem dX4_foresee_37 : decode cX4_foresee 37 = .ok (.invokevirtual 133, 3) := by decide +kernel
theorem dX4_foresee_40 : decode cX4_foresee 40 = .ok (.ireturn, 1) := by decide +kernel
set_option maxRecDepth 20000 in
theorem ggX4_like_X4_isWithin : GoodIn wsX4_like wsX4_isWithin := goodIn_r _ [6] (by decide +kernel) (by decide +kernel)
set_option maxRecDepth 20000 in
theorem gX4_like_X4_isWithin : GoodIn wsX4_like (va_wsS RX4 34 yX4_isWithin wsX4_isWithin) := goodIn_app (goodIn_of _ (by decide +kernel)) ggX4_like_X4_isWithin
set_option maxRecDepth 20000 in
theorem ggX4_like_X4_stampsWith : GoodIn wsX4_like wsX4_stampsWith := goodIn_r _ [10, 11, 12, 13, 14, 15, 16, 17, 18, 19, 20, 21, 22, 23, 24, 25, 26, 27, 28, 29, 30] (by decide +kernel) (by decide +kernel)
set_option maxRecDepth 20000 in
theorem gX4_like_X4_stampsWith : GoodIn wsX4_like (wsV RX4 139 RX4 yX4_stampsWith wsX4_stampsWith) := goodIn_app (goodIn_of _ (by decide +kernel)) ggX4_like_X4_stampsWith
theorem dX4_like_0 : decode cX4_like 0 = .ok (.iload_n 1, 1) := by decide +kernel
theorem dX4_like_1 : decode cX4_like 1 = .ok (.iconst 0, 1) := by decide +kernel
theorem dX4_like_2 : decode cX4_like 2 = .ok (.bipush 31, 2) := by decide +kernel
theorem dX4_like_4 : decode cX4_like 4 = .ok (.invokestatic 34, 3) := by decide +kernel
theorem dX4_like_7 : decode cX4_like 7 = .ok (.ifCond .ne 13, 3) := by decide +kernel
theorem dX4_like_10 : decode cX4_like 10 = .ok (.new 38, 3) := by decide +kernel
theorem dX4_like_13 : decode cX4_like 13 = .ok (.dup, 1) := by decide +kernel
theorem dX4_like_14 : decode cX4_like 14 = .ok (.ldc 137, 2) := by decide +kernel
theorem dX4_like_16 : decode cX4_like 16 = .ok (.invokespecial 42, 3) := by decide +kernel
theorem dX4_like_19 : decode cX4_like 19 = .ok (.athrow, 1) := by decide +kernel
theorem dX4_like_20 : decode cX4_like 20 = .ok (.aload_n 0, 1) := by decide +kernel
theorem dX4_like_21 : decode cX4_like 21 = .ok (.iload_n 1, 1) := by decide +kernel
theorem dX4_like_22 : decode cX4_like 22 = .ok (.invokevirtual 139, 3) := by decide +kernel
theorem dX4_like_25 : decode cX4_like 25 = .ok (.ireturn, 1) := by decide +kernel
set_option maxRecDepth 20000 in
theorem ggX4_share_X4_stampsWith : GoodIn wsX4_share wsX4_stampsWith := goodIn_r _ [6, 1, 7, 8, 9, 10, 11, 12, 13, 14, 15, 16, 17, 18, 19, 20, 21, 22, 23, 24, 25] (by decide +kernel) (by decide +kernel)
set_option maxRecDepth 20000 in
theorem gX4_share_X4_stampsWith : GoodIn wsX4_share (wsV RX4 139 RX4 yX4_stampsWith wsX4_stampsWith) := goodIn_app (goodIn_of _ (by decide +kernel)) ggX4_share_X4_stampsWith
theorem dX4_share_0 : decode cX4_share 0 = .ok (.bipush 30, 2) := by decide +kernel
theorem dX4_share_2 : decode cX4_share 2 = .ok (.aload_n 0, 1) := by decide +kernel
theorem dX4_share_3 : decode cX4_share 3 = .ok (.getfield 88, 3) := by decide +kernel
theorem dX4_share_6 : decode cX4_share 6 = .ok (.imul, 1) := by decide +kernel
theorem dX4_share_7 : decode cX4_share 7 = .ok (.istore_n 1, 1) := by decide +kernel
theorem dX4_share_8 : decode cX4_share 8 = .ok (.iload_n 1, 1) := by decide +kernel
theorem dX4_share_9 : decode cX4_share 9 = .ok (.ifCond .ne 5, 3) := by decide +kernel
theorem dX4_share_12 : decode cX4_share 12 = .ok (.dconst 0, 1) := by decide +kernel
theorem dX4_share_13 : decode cX4_share 13 = .ok (.dreturn, 1) := by decide +kernel
theorem dX4_share_14 : decode cX4_share 14 = .ok (.aload_n 0, 1) := by decide +kernel
theorem dX4_share_15 : decode cX4_share 15 = .ok (.iconst 0, 1) := by decide +kernel
theorem dX4_share_16 : decode cX4_share 16 = .ok (.invokevirtual 139, 3) := by decide +kernel
theorem dX4_share_19 : decode cX4_share 19 = .ok (.i2d, 1) := by decide +kernel
theorem dX4_share_20 : decode cX4_share 20 = .ok (.iload_n 1, 1) := by decide +kernel
theorem dX4_share_21 : decode cX4_share 21 = .ok (.i2d, 1) := by decide +kernel
theorem dX4_share_22 : decode cX4_share 22 = .ok (.ddiv, 1) := by decide +kernel
theorem dX4_share_23 : decode cX4_share 23 = .ok (.dreturn, 1) := by decide +kernel
theorem dX4_isWithin_0 : decode cX4_isWithin 0 = .ok (.iload_n 0, 1) := by decide +kernel
theorem dX4_isWithin_1 : decode cX4_isWithin 1 = .ok (.iload_n 1, 1) := by decide +kernel
theorem dX4_isWithin_2 : decode cX4_isWithin 2 = .ok (.if_icmp .lt 12, 3) := by decide +kernel
theorem dX4_isWithin_5 : decode cX4_isWithin 5 = .ok (.iload_n 0, 1) := by decide +kernel
theorem dX4_isWithin_6 : decode cX4_isWithin 6 = .ok (.iload_n 2, 1) := by decide +kernel
theorem dX4_isWithin_7 : decode cX4_isWithin 7 = .ok (.if_icmp .gt 7, 3) := by decide +kernel
theorem dX4_isWithin_10 : decode cX4_isWithin 10 = .ok (.iconst 1, 1) := by decide +kernel
theorem dX4_isWithin_11 : decode cX4_isWithin 11 = .ok (.goto 4, 3) := by decide +kernel
theorem dX4_isWithin_14 : decode cX4_isWithin 14 = .ok (.iconst 0, 1) := by decide +kernel
theorem dX4_isWithin_15 : decode cX4_isWithin 15 = .ok (.ireturn, 1) := by decide +kernel
set_option maxRecDepth 20000 in
theorem ggX4_checkPin_X4_isWithin : GoodIn wsX4_checkPin wsX4_isWithin := goodIn_r _ [6] (by decide +kernel) (by decide +kernel)
set_option maxRecDepth 20000 in
theorem gX4_checkPin_X4_isWithin : GoodIn wsX4_checkPin (va_wsS RX4 34 yX4_isWithin wsX4_isWithin) := goodIn_app (goodIn_of _ (by decide +kernel)) ggX4_checkPin_X4_isWithin
theorem dX4_checkPin_0 : decode cX4_checkPin 0 = .ok (.iload_n 0, 1) := by decide +kernel
theorem dX4_checkPin_1 : decode cX4_checkPin 1 = .ok (.iconst 0, 1) := by decide +kernel
theorem dX4_checkPin_2 : decode cX4_checkPin 2 = .ok (.bipush 6, 2) := by decide +kernel
theorem dX4_checkPin_4 : decode cX4_checkPin 4 = .ok (.invokestatic 34, 3) := by decide +kernel
theorem dX4_checkPin_7 : decode cX4_checkPin 7 = .ok (.ifCond .ne 13, 3) := by decide +kernel
theorem dX4_checkPin_10 : decode cX4_checkPin 10 = .ok (.new 150, 3) := by decide +kernel
theorem dX4_checkPin_13 : decode cX4_checkPin 13 = .ok (.dup, 1) := by decide +kernel
theorem dX4_checkPin_14 : decode cX4_checkPin 14 = .ok (.ldc 152, 2) := by decide +kernel
theorem dX4_checkPin_16 : decode cX4_checkPin 16 = .ok (.invokespecial 154, 3) := by decide +kernel
theorem dX4_checkPin_19 : decode cX4_checkPin 19 = .ok (.athrow, 1) := by decide +kernel
theorem dX4_checkPin_20 : decode cX4_checkPin 20 = .ok (.return_, 1) := by decide +kernel
set_option maxRecDepth 20000 in
theorem ggX4_checkPlace_X4_isWithin : GoodIn wsX4_checkPlace wsX4_isWithin := goodIn_r _ [6] (by decide +kernel) (by decide +kernel)
set_option maxRecDepth 20000 in
theorem gX4_checkPlace_X4_isWithin : GoodIn wsX4_checkPlace (va_wsS RX4 34 yX4_isWithin wsX4_isWithin) := goodIn_app (goodIn_of _ (by decide +kernel)) ggX4_checkPlace_X4_isWithin
theorem dX4_checkPlace_0 : decode cX4_checkPlace 0 = .ok (.iload_n 0, 1) := by decide +kernel
theorem dX4_checkPlace_1 : decode cX4_checkPlace 1 = .ok (.iconst 0, 1) := by decide +kernel
theorem dX4_checkPlace_2 : decode cX4_checkPlace 2 = .ok (.iconst 4, 1) := by decide +kernel
theorem dX4_checkPlace_3 : decode cX4_checkPlace 3 = .ok (.invokestatic 34, 3) := by decide +kernel
theorem dX4_checkPlace_6 : decode cX4_checkPlace 6 = .ok (.ifCond .eq 12, 3) := by decide +kernel
theorem dX4_checkPlace_9 : decode cX4_checkPlace 9 = .ok (.iload_n 1, 1) := by decide +kernel
theorem dX4_checkPlace_10 : decode cX4_checkPlace 10 = .ok (.iconst 0, 1) := by decide +kernel
theorem dX4_checkPlace_11 : decode cX4_checkPlace 11 = .ok (.iconst 5, 1) := by decide +kernel
theorem dX4_checkPlace_12 : decode cX4_checkPlace 12 = .ok (.invokestatic 34, 3) := by decide +kernel
theorem dX4_checkPlace_15 : decode cX4_checkPlace 15 = .ok (.ifCond .ne 13, 3) := by decide +kernel
theorem dX4_checkPlace_18 : decode cX4_checkPlace 18 = .ok (.new 150, 3) := by decide +kernel
theorem dX4_checkPlace_21 : decode cX4_checkPlace 21 = .ok (.dup, 1) := by decide +kernel
theorem dX4_checkPlace_22 : decode cX4_checkPlace 22 = .ok (.ldc 155, 2) := by decide +kernel
theorem dX4_checkPlace_24 : decode cX4_checkPlace 24 = .ok (.invokespecial 154, 3) := by decide +kernel
theorem dX4_checkPlace_27 : decode cX4_checkPlace 27 = .ok (.athrow, 1) := by decide +kernel
theorem dX4_checkPlace_28 : decode cX4_checkPlace 28 = .ok (.return_, 1) := by decide +kernel
set_option maxRecDepth 20000 in
theorem ggX4_checkSheet_X4_isWithin : GoodIn wsX4_checkSheet wsX4_isWithin := goodIn_r _ [7] (by decide +kernel) (by decide +kernel)
set_option maxRecDepth 20000 in
theorem gX4_checkSheet_X4_isWithin : GoodIn wsX4_checkSheet (va_wsS RX4 34 yX4_isWithin wsX4_isWithin) := goodIn_app (goodIn_of _ (by decide +kernel)) ggX4_checkSheet_X4_isWithin
theorem dX4_checkSheet_0 : decode cX4_checkSheet 0 = .ok (.iload_n 1, 1) := by decide +kernel
theorem dX4_checkSheet_1 : decode cX4_checkSheet 1 = .ok (.iconst 0, 1) := by decide +kernel
theorem dX4_checkSheet_2 : decode cX4_checkSheet 2 = .ok (.aload_n 0, 1) := by decide +kernel
theorem dX4_checkSheet_3 : decode cX4_checkSheet 3 = .ok (.getfield 88, 3) := by decide +kernel
theorem dX4_checkSheet_6 : decode cX4_checkSheet 6 = .ok (.iconst 1, 1) := by decide +kernel
theorem dX4_checkSheet_7 : decode cX4_checkSheet 7 = .ok (.isub, 1) := by decide +kernel
theorem dX4_checkSheet_8 : decode cX4_checkSheet 8 = .ok (.invokestatic 34, 3) := by decide +kernel
theorem dX4_checkSheet_11 : decode cX4_checkSheet 11 = .ok (.ifCond .ne 13, 3) := by decide +kernel
theorem dX4_checkSheet_14 : decode cX4_checkSheet 14 = .ok (.new 150, 3) := by decide +kernel
theorem dX4_checkSheet_17 : decode cX4_checkSheet 17 = .ok (.dup, 1) := by decide +kernel
theorem dX4_checkSheet_18 : decode cX4_checkSheet 18 = .ok (.ldc 157, 2) := by decide +kernel
theorem dX4_checkSheet_20 : decode cX4_checkSheet 20 = .ok (.invokespecial 154, 3) := by decide +kernel
theorem dX4_checkSheet_23 : decode cX4_checkSheet 23 = .ok (.athrow, 1) := by decide +kernel
theorem dX4_checkSheet_24 : decode cX4_checkSheet 24 = .ok (.return_, 1) := by decide +kernel
set_option maxRecDepth 20000 in
theorem ggX4_checkWhat_X4_isWithin : GoodIn wsX4_checkWhat wsX4_isWithin := goodIn_r _ [6] (by decide +kernel) (by decide +kernel)
set_option maxRecDepth 20000 in
theorem gX4_checkWhat_X4_isWithin : GoodIn wsX4_checkWhat (va_wsS RX4 34 yX4_isWithin wsX4_isWithin) := goodIn_app (goodIn_of _ (by decide +kernel)) ggX4_checkWhat_X4_isWithin
theorem dX4_checkWhat_0 : decode cX4_checkWhat 0 = .ok (.iload_n 0, 1) := by decide +kernel
theorem dX4_checkWhat_1 : decode cX4_checkWhat 1 = .ok (.iconst 0, 1) := by decide +kernel
theorem dX4_checkWhat_2 : decode cX4_checkWhat 2 = .ok (.iload_n 1, 1) := by decide +kernel
theorem dX4_checkWhat_3 : decode cX4_checkWhat 3 = .ok (.iconst 1, 1) := by decide +kernel
theorem dX4_checkWhat_4 : decode cX4_checkWhat 4 = .ok (.isub, 1) := by decide +kernel
theorem dX4_checkWhat_5 : decode cX4_checkWhat 5 = .ok (.invokestatic 34, 3) := by decide +kernel
theorem dX4_checkWhat_8 : decode cX4_checkWhat 8 = .ok (.ifCond .ne 13, 3) := by decide +kernel
theorem dX4_checkWhat_11 : decode cX4_checkWhat 11 = .ok (.new 150, 3) := by decide +kernel
theorem dX4_checkWhat_14 : decode cX4_checkWhat 14 = .ok (.dup, 1) := by decide +kernel
theorem dX4_checkWhat_15 : decode cX4_checkWhat 15 = .ok (.ldc 159, 2) := by decide +kernel
theorem dX4_checkWhat_17 : decode cX4_checkWhat 17 = .ok (.invokespecial 154, 3) := by decide +kernel
theorem dX4_checkWhat_20 : decode cX4_checkWhat 20 = .ok (.athrow, 1) := by decide +kernel
theorem dX4_checkWhat_21 : decode cX4_checkWhat 21 = .ok (.return_, 1) := by decide +kernel
set_option maxRecDepth 20000 in
theorem ggX4_checkSheetsToRun_X4_isWithin : GoodIn wsX4_checkSheetsToRun wsX4_isWithin := goodIn_r _ [6] (by decide +kernel) (by decide +kernel)
set_option maxRecDepth 20000 in
theorem gX4_checkSheetsToRun_X4_isWithin : GoodIn wsX4_checkSheetsToRun (va_wsS RX4 34 yX4_isWithin wsX4_isWithin) := goodIn_app (goodIn_of _ (by decide +kernel)) ggX4_checkSheetsToRun_X4_isWithin
theorem dX4_checkSheetsToRun_0 : decode cX4_checkSheetsToRun 0 = .ok (.iload_n 0, 1) := by decide +kernel
theorem dX4_checkSheetsToRun_1 : decode cX4_checkSheetsToRun 1 = .ok (.iconst 1, 1) := by decide +kernel
theorem dX4_checkSheetsToRun_2 : decode cX4_checkSheetsToRun 2 = .ok (.bipush 20, 2) := by decide +kernel
theorem dX4_checkSheetsToRun_4 : decode cX4_checkSheetsToRun 4 = .ok (.invokestatic 34, 3) := by decide +kernel
theorem dX4_checkSheetsToRun_7 : decode cX4_checkSheetsToRun 7 = .ok (.ifCond .ne 13, 3) := by decide +kernel
theorem dX4_checkSheetsToRun_10 : decode cX4_checkSheetsToRun 10 = .ok (.new 38, 3) := by decide +kernel
theorem dX4_checkSheetsToRun_13 : decode cX4_checkSheetsToRun 13 = .ok (.dup, 1) := by decide +kernel
theorem dX4_checkSheetsToRun_14 : decode cX4_checkSheetsToRun 14 = .ok (.ldc 161, 2) := by decide +kernel
theorem dX4_checkSheetsToRun_16 : decode cX4_checkSheetsToRun 16 = .ok (.invokespecial 42, 3) := by decide +kernel
theorem dX4_checkSheetsToRun_19 : decode cX4_checkSheetsToRun 19 = .ok (.athrow, 1) := by decide +kernel
theorem dX4_checkSheetsToRun_20 : decode cX4_checkSheetsToRun 20 = .ok (.return_, 1) := by decide +kernel
set_option maxRecDepth 20000 in
theorem ggX4_countAnswer_X0_brokenPins : GoodIn wsX4_countAnswer wsX0_brokenPins := goodIn_r _ [7, 8, 9, 10, 11, 12, 13, 14, 15, 43, 44, 45, 46, 47, 48, 49, 50, 51] (by decide +kernel) (by decide +kernel)
set_option maxRecDepth 20000 in
theorem gX4_countAnswer_X0_brokenPins : GoodIn wsX4_countAnswer (wsV RX4 163 RX0 yX0_brokenPins wsX0_brokenPins) := goodIn_app (goodIn_of _ (by decide +kernel)) ggX4_countAnswer_X0_brokenPins
set_option maxRecDepth 20000 in
theorem ggX4_countAnswer_X4_invertedPlaces : GoodIn wsX4_countAnswer wsX4_invertedPlaces := goodIn_r _ [20, 21, 38, 39, 40, 41, 42] (by decide +kernel) (by decide +kernel)
