theorem wsL_law_x0 : ∀ w ∈ (vx_atS RX4 42 "java/lang/IllegalArgumentException" ["java/lang/RuntimeException", "java/lang/Exception"]).filter goodWord, w ∈ lw_tbl := by decide +kernel
theorem wsL_law_x1 : ∀ w ∈ (vx_atS RX4 154 "java/lang/IndexOutOfBoundsException" ["java/lang/RuntimeException", "java/lang/Exception"]).filter goodWord, w ∈ lw_tbl := by decide +kernel
theorem wsL_law_x2 : ∀ w ∈ (vx_atS RX4 95 "java/lang/IllegalStateException" ["java/lang/RuntimeException", "java/lang/Exception"]).filter goodWord, w ∈ lw_tbl := by decide +kernel
theorem wsL_law_in : ∀ w ∈ wsL_law, w ∈ lw_tbl := fun w h => (List.mem_append.mp h).elim (fun h => (List.mem_append.mp h).elim (fun h => (List.mem_append.mp h).elim (fun h => wsL_law_in0 w h) (fun h => wsL_law_x0 w h)) (fun h => wsL_law_x1 w h)) (fun h => wsL_law_x2 w h)
theorem inlX0 : ∀ w ∈ wsX00, w ∈ wsL_law := fun _ h => List.mem_append_left _ (List.mem_append_left _ (List.mem_append_left _ (List.mem_append_left _ (List.mem_append_left _ (List.mem_append_left _ (List.mem_append_left _ (List.mem_append_right _ h)))))))
theorem inX0 : ∀ w ∈ wsX00, w ∈ lw_tbl := fun w h => wsL_law_in w (inlX0 w h)
theorem inlX1 : ∀ w ∈ wsX10, w ∈ wsL_law := fun _ h => List.mem_append_left _ (List.mem_append_left _ (List.mem_append_left _ (List.mem_append_left _ (List.mem_append_right _ h))))
theorem inX1 : ∀ w ∈ wsX10, w ∈ lw_tbl := fun w h => wsL_law_in w (inlX1 w h)
theorem inlX2 : ∀ w ∈ wsX20, w ∈ wsL_law := fun _ h => List.mem_append_left _ (List.mem_append_left _ (List.mem_append_left _ (List.mem_append_left _ (List.mem_append_left _ (List.mem_append_right _ h)))))
theorem inX2 : ∀ w ∈ wsX20, w ∈ lw_tbl := fun w h => wsL_law_in w (inlX2 w h)
theorem inlX3 : ∀ w ∈ wsX30, w ∈ wsL_law := fun _ h => List.mem_append_left _ (List.mem_append_left _ (List.mem_append_left _ (List.mem_append_left _ (List.mem_append_left _ (List.mem_append_left _ (List.mem_append_right _ h))))))
theorem inX3 : ∀ w ∈ wsX30, w ∈ lw_tbl := fun w h => wsL_law_in w (inlX3 w h)
theorem inlX4 : ∀ w ∈ wsX40, w ∈ wsL_law := fun _ h => List.mem_append_left _ (List.mem_append_left _ (List.mem_append_left _ (List.mem_append_left _ (List.mem_append_left _ (List.mem_append_left _ (List.mem_append_left _ (List.mem_append_left _ (List.mem_append_left _ (List.mem_append_right _ h)))))))))
theorem inX4 : ∀ w ∈ wsX40, w ∈ lw_tbl := fun w h => wsL_law_in w (inlX4 w h)
theorem inlX5 : ∀ w ∈ wsX50, w ∈ wsL_law := fun _ h => List.mem_append_left _ (List.mem_append_left _ (List.mem_append_left _ (List.mem_append_left _ (List.mem_append_left _ (List.mem_append_left _ (List.mem_append_left _ (List.mem_append_left _ (List.mem_append_right _ h))))))))
theorem inX5 : ∀ w ∈ wsX50, w ∈ lw_tbl := fun w h => wsL_law_in w (inlX5 w h)
theorem inJx8e188 : ∀ w ∈ wsJx8e1880, w ∈ lw_tbl := by decide +kernel
theorem inJ9 : ∀ w ∈ wsJ90, w ∈ lw_tbl := by decide +kernel
theorem inJ0 : ∀ w ∈ wsJ00, w ∈ lw_tbl := by decide +kernel
theorem inJ10 : ∀ w ∈ wsJ100, w ∈ lw_tbl := by decide +kernel
set_option maxRecDepth 20000 in
theorem ggX0_init_X1_init : GoodIn wsX0_init wsX1_init := goodIn_r _ [11, 12, 2, 3, 13, 21, 22] (by decide +kernel) (by decide +kernel)
set_option maxRecDepth 20000 in
theorem gX0_init_X1_init_n24 : GoodIn wsX0_init (wsX1_init) := ggX0_init_X1_init
theorem dX0_init_0 : decode cX0_init 0 = .ok (.aload_n 0, 1) := by decide +kernel
theorem dX0_init_1 : decode cX0_init 1 = .ok (.invokespecial 3, 3) := by decide +kernel
theorem dX0_init_4 : decode cX0_init 4 = .ok (.aload_n 0, 1) := by decide +kernel
theorem dX0_init_5 : decode cX0_init 5 = .ok (.bipush 20, 2) := by decide +kernel
theorem dX0_init_7 : decode cX0_init 7 = .ok (.putfield 9, 3) := by decide +kernel
theorem dX0_init_10 : decode cX0_init 10 = .ok (.aload_n 0, 1) := by decide +kernel
theorem dX0_init_11 : decode cX0_init 11 = .ok (.iconst 1, 1) := by decide +kernel
theorem dX0_init_12 : decode cX0_init 12 = .ok (.putfield 15, 3) := by decide +kernel
theorem dX0_init_15 : decode cX0_init 15 = .ok (.aload_n 0, 1) := by decide +kernel
theorem dX0_init_16 : decode cX0_init 16 = .ok (.bipush 7, 2) := by decide +kernel
theorem dX0_init_18 : decode cX0_init 18 = .ok (.anewarray 18, 3) := by decide +kernel
theorem dX0_init_21 : decode cX0_init 21 = .ok (.putfield 20, 3) := by decide +kernel
theorem dX0_init_24 : decode cX0_init 24 = .ok (.iconst 0, 1) := by decide +kernel
theorem dX0_init_25 : decode cX0_init 25 = .ok (.istore_n 1, 1) := by decide +kernel
theorem dX0_init_26 : decode cX0_init 26 = .ok (.iload_n 1, 1) := by decide +kernel
theorem dX0_init_27 : decode cX0_init 27 = .ok (.bipush 7, 2) := by decide +kernel
theorem dX0_init_29 : decode cX0_init 29 = .ok (.if_icmp .ge 22, 3) := by decide +kernel
theorem dX0_init_32 : decode cX0_init 32 = .ok (.aload_n 0, 1) := by decide +kernel
theorem dX0_init_33 : decode cX0_init 33 = .ok (.getfield 20, 3) := by decide +kernel
theorem dX0_init_36 : decode cX0_init 36 = .ok (.iload_n 1, 1) := by decide +kernel
theorem dX0_init_37 : decode cX0_init 37 = .ok (.new 18, 3) := by decide +kernel
theorem dX0_init_40 : decode cX0_init 40 = .ok (.dup, 1) := by decide +kernel
theorem dX0_init_41 : decode cX0_init 41 = .ok (.invokespecial 24, 3) := by decide +kernel
theorem dX0_init_44 : decode cX0_init 44 = .ok (.aastore, 1) := by decide +kernel
theorem dX0_init_45 : decode cX0_init 45 = .ok (.iinc 1 1, 3) := by decide +kernel
theorem dX0_init_48 : decode cX0_init 48 = .ok (.goto (-22), 3) := by decide +kernel
theorem dX0_init_51 : decode cX0_init 51 = .ok (.return_, 1) := by decide +kernel
set_option maxRecDepth 20000 in
theorem ggX0_becomeLike_X1_becomeLike : GoodIn wsX0_becomeLike wsX1_becomeLike := goodIn_r _ [12, 13, 14, 22, 23] (by decide +kernel) (by decide +kernel)
set_option maxRecDepth 20000 in
theorem gX0_becomeLike_X1_becomeLike : GoodIn wsX0_becomeLike (wsV RX0 25 RX1 yX1_becomeLike wsX1_becomeLike) := goodIn_app (goodIn_of _ (by decide +kernel)) ggX0_becomeLike_X1_becomeLike
theorem dX0_becomeLike_0 : decode cX0_becomeLike 0 = .ok (.iconst 0, 1) := by decide +kernel
theorem dX0_becomeLike_1 : decode cX0_becomeLike 1 = .ok (.istore_n 2, 1) := by decide +kernel
theorem dX0_becomeLike_2 : decode cX0_becomeLike 2 = .ok (.iload_n 2, 1) := by decide +kernel
theorem dX0_becomeLike_3 : decode cX0_becomeLike 3 = .ok (.bipush 7, 2) := by decide +kernel
theorem dX0_becomeLike_5 : decode cX0_becomeLike 5 = .ok (.if_icmp .ge 24, 3) := by decide +kernel
theorem dX0_becomeLike_8 : decode cX0_becomeLike 8 = .ok (.aload_n 0, 1) := by decide +kernel
theorem dX0_becomeLike_9 : decode cX0_becomeLike 9 = .ok (.getfield 20, 3) := by decide +kernel
theorem dX0_becomeLike_12 : decode cX0_becomeLike 12 = .ok (.iload_n 2, 1) := by decide +kernel
theorem dX0_becomeLike_13 : decode cX0_becomeLike 13 = .ok (.aaload, 1) := by decide +kernel
theorem dX0_becomeLike_14 : decode cX0_becomeLike 14 = .ok (.aload_n 1, 1) := by decide +kernel
theorem dX0_becomeLike_15 : decode cX0_becomeLike 15 = .ok (.getfield 20, 3) := by decide +kernel
theorem dX0_becomeLike_18 : decode cX0_becomeLike 18 = .ok (.iload_n 2, 1) := by decide +kernel
theorem dX0_becomeLike_19 : decode cX0_becomeLike 19 = .ok (.aaload, 1) := by decide +kernel
theorem dX0_becomeLike_20 : decode cX0_becomeLike 20 = .ok (.invokevirtual 25, 3) := by decide +kernel
theorem dX0_becomeLike_23 : decode cX0_becomeLike 23 = .ok (.iinc 2 1, 3) := by decide +kernel
theorem dX0_becomeLike_26 : decode cX0_becomeLike 26 = .ok (.goto (-24), 3) := by decide +kernel
theorem dX0_becomeLike_29 : decode cX0_becomeLike 29 = .ok (.aload_n 0, 1) := by decide +kernel
theorem dX0_becomeLike_30 : decode cX0_becomeLike 30 = .ok (.aload_n 1, 1) := by decide +kernel
theorem dX0_becomeLike_31 : decode cX0_becomeLike 31 = .ok (.getfield 9, 3) := by decide +kernel
theorem dX0_becomeLike_34 : decode cX0_becomeLike 34 = .ok (.putfield 9, 3) := by decide +kernel
theorem dX0_becomeLike_37 : decode cX0_becomeLike 37 = .ok (.aload_n 0, 1) := by decide +kernel
theorem dX0_becomeLike_38 : decode cX0_becomeLike 38 = .ok (.aload_n 1, 1) := by decide +kernel
theorem dX0_becomeLike_39 : decode cX0_becomeLike 39 = .ok (.getfield 29, 3) := by decide +kernel
theorem dX0_becomeLike_42 : decode cX0_becomeLike 42 = .ok (.putfield 29, 3) := by decide +kernel
theorem dX0_becomeLike_45 : decode cX0_becomeLike 45 = .ok (.aload_n 0, 1) := by decide +kernel
theorem dX0_becomeLike_46 : decode cX0_becomeLike 46 = .ok (.aload_n 1, 1) := by decide +kernel
theorem dX0_becomeLike_47 : decode cX0_becomeLike 47 = .ok (.getfield 32, 3) := by decide +kernel
theorem dX0_becomeLike_50 : decode cX0_becomeLike 50 = .ok (.putfield 32, 3) := by decide +kernel
theorem dX0_becomeLike_53 : decode cX0_becomeLike 53 = .ok (.aload_n 0, 1) := by decide +kernel
theorem dX0_becomeLike_54 : decode cX0_becomeLike 54 = .ok (.aload_n 1, 1) := by decide +kernel
theorem dX0_becomeLike_55 : decode cX0_becomeLike 55 = .ok (.getfield 35, 3) := by decide +kernel
theorem dX0_becomeLike_58 : decode cX0_becomeLike 58 = .ok (.putfield 35, 3) := by decide +kernel
theorem dX0_becomeLike_61 : decode cX0_becomeLike 61 = .ok (.aload_n 0, 1) := by decide +kernel
theorem dX0_becomeLike_62 : decode cX0_becomeLike 62 = .ok (.aload_n 1, 1) := by decide +kernel
theorem dX0_becomeLike_63 : decode cX0_becomeLike 63 = .ok (.getfield 38, 3) := by decide +kernel
theorem dX0_becomeLike_66 : decode cX0_becomeLike 66 = .ok (.putfield 38, 3) := by decide +kernel
theorem dX0_becomeLike_69 : decode cX0_becomeLike 69 = .ok (.aload_n 0, 1) := by decide +kernel
theorem dX0_becomeLike_70 : decode cX0_becomeLike 70 = .ok (.aload_n 1, 1) := by decide +kernel
theorem dX0_becomeLike_71 : decode cX0_becomeLike 71 = .ok (.getfield 15, 3) := by decide +kernel
theorem dX0_becomeLike_74 : decode cX0_becomeLike 74 = .ok (.putfield 15, 3) := by decide +kernel
theorem dX0_becomeLike_77 : decode cX0_becomeLike 77 = .ok (.return_, 1) := by decide +kernel
set_option maxRecDepth 20000 in
theorem ggX0_perforate_X0_markRow : GoodIn wsX0_perforate wsX0_markRow := goodIn_r _ [17, 1, 18, 19, 20, 21, 22, 23, 16, 24, 25, 26, 27, 28, 29, 30, 31, 32, 33, 34, 35, 36, 37, 4, 47, 48, 49, 50, 51, 52, 53, 54, 55, 56, 57] (by decide +kernel) (by decide +kernel)
set_option maxRecDepth 20000 in
theorem gX0_perforate_X0_markRow : GoodIn wsX0_perforate (wsV RX0 41 RX0 yX0_markRow wsX0_markRow) := goodIn_app (goodIn_of _ (by decide +kernel)) ggX0_perforate_X0_markRow
set_option maxRecDepth 20000 in
theorem ggX0_perforate_X0_strikeAll : GoodIn wsX0_perforate wsX0_strikeAll := goodIn_r _ [41, 25, 42, 43, 44, 29, 45, 31, 46, 27, 28, 30, 32, 47, 48, 49, 50, 51, 52, 53, 56, 57] (by decide +kernel) (by decide +kernel)
set_option maxRecDepth 20000 in
theorem gX0_perforate_X0_strikeAll : GoodIn wsX0_perforate (wsV RX0 45 RX0 yX0_strikeAll wsX0_strikeAll) := goodIn_app (goodIn_of _ (by decide +kernel)) ggX0_perforate_X0_strikeAll
theorem dX0_perforate_0 : decode cX0_perforate 0 = .ok (.iconst 0, 1) := by decide +kernel
theorem dX0_perforate_1 : decode cX0_perforate 1 = .ok (.istore_n 3, 1) := by decide +kernel
theorem dX0_perforate_2 : decode cX0_perforate 2 = .ok (.iload_n 3, 1) := by decide +kernel
theorem dX0_perforate_3 : decode cX0_perforate 3 = .ok (.iconst 5, 1) := by decide +kernel
theorem dX0_perforate_4 : decode cX0_perforate 4 = .ok (.if_icmp .ge 56, 3) := by decide +kernel
theorem dX0_perforate_7 : decode cX0_perforate 7 = .ok (.aload_n 0, 1) := by decide +kernel
theorem dX0_perforate_8 : decode cX0_perforate 8 = .ok (.dup, 1) := by decide +kernel
theorem dX0_perforate_9 : decode cX0_perforate 9 = .ok (.getfield 32, 3) := by decide +kernel
theorem dX0_perforate_12 : decode cX0_perforate 12 = .ok (.aload_n 0, 1) := by decide +kernel
theorem dX0_perforate_13 : decode cX0_perforate 13 = .ok (.getfield 9, 3) := by decide +kernel
theorem dX0_perforate_16 : decode cX0_perforate 16 = .ok (.bipush 20, 2) := by decide +kernel
theorem dX0_perforate_18 : decode cX0_perforate 18 = .ok (.isub, 1) := by decide +kernel
theorem dX0_perforate_19 : decode cX0_perforate 19 = .ok (.iadd, 1) := by decide +kernel
theorem dX0_perforate_20 : decode cX0_perforate 20 = .ok (.putfield 32, 3) := by decide +kernel
theorem dX0_perforate_23 : decode cX0_perforate 23 = .ok (.aload_n 0, 1) := by decide +kernel
theorem dX0_perforate_24 : decode cX0_perforate 24 = .ok (.iload_n 3, 1) := by decide +kernel
theorem dX0_perforate_25 : decode cX0_perforate 25 = .ok (.aload_n 1, 1) := by decide +kernel
theorem dX0_perforate_26 : decode cX0_perforate 26 = .ok (.aload_n 2, 1) := by decide +kernel
theorem dX0_perforate_27 : decode cX0_perforate 27 = .ok (.invokevirtual 41, 3) := by decide +kernel
theorem dX0_perforate_30 : decode cX0_perforate 30 = .ok (.aload_n 0, 1) := by decide +kernel
theorem dX0_perforate_31 : decode cX0_perforate 31 = .ok (.invokevirtual 45, 3) := by decide +kernel
theorem dX0_perforate_34 : decode cX0_perforate 34 = .ok (.aload_n 0, 1) := by decide +kernel
theorem dX0_perforate_35 : decode cX0_perforate 35 = .ok (.dup, 1) := by decide +kernel
theorem dX0_perforate_36 : decode cX0_perforate 36 = .ok (.getfield 35, 3) := by decide +kernel
theorem dX0_perforate_39 : decode cX0_perforate 39 = .ok (.iconst 1, 1) := by decide +kernel
theorem dX0_perforate_40 : decode cX0_perforate 40 = .ok (.isub, 1) := by decide +kernel
theorem dX0_perforate_41 : decode cX0_perforate 41 = .ok (.putfield 35, 3) := by decide +kernel
theorem dX0_perforate_44 : decode cX0_perforate 44 = .ok (.aload_n 0, 1) := by decide +kernel
theorem dX0_perforate_45 : decode cX0_perforate 45 = .ok (.dup, 1) := by decide +kernel
theorem dX0_perforate_46 : decode cX0_perforate 46 = .ok (.getfield 38, 3) := by decide +kernel
theorem dX0_perforate_49 : decode cX0_perforate 49 = .ok (.iconst 1, 1) := by decide +kernel
theorem dX0_perforate_50 : decode cX0_perforate 50 = .ok (.iadd, 1) := by decide +kernel
theorem dX0_perforate_51 : decode cX0_perforate 51 = .ok (.putfield 38, 3) := by decide +kernel
theorem dX0_perforate_54 : decode cX0_perforate 54 = .ok (.iinc 3 1, 3) := by decide +kernel
theorem dX0_perforate_57 : decode cX0_perforate 57 = .ok (.goto (-55), 3) := by decide +kernel
theorem dX0_perforate_60 : decode cX0_perforate 60 = .ok (.aload_n 0, 1) := by decide +kernel
theorem dX0_perforate_61 : decode cX0_perforate 61 = .ok (.bipush 10, 2) := by decide +kernel
theorem dX0_perforate_63 : decode cX0_perforate 63 = .ok (.bipush 30, 2) := by decide +kernel
theorem dX0_perforate_65 : decode cX0_perforate 65 = .ok (.aload_n 0, 1) := by decide +kernel
theorem dX0_perforate_66 : decode cX0_perforate 66 = .ok (.getfield 9, 3) := by decide +kernel
theorem dX0_perforate_69 : decode cX0_perforate 69 = .ok (.aload_n 0, 1) := by decide +kernel
theorem dX0_perforate_70 : decode cX0_perforate 70 = .ok (.getfield 29, 3) := by decide +kernel
theorem dX0_perforate_73 : decode cX0_perforate 73 = .ok (.iadd, 1) := by decide +kernel
theorem dX0_perforate_74 : decode cX0_perforate 74 = .ok (.invokestatic 48, 3) := by decide +kernel
theorem dX0_perforate_77 : decode cX0_perforate 77 = .ok (.invokestatic 54, 3) := by decide +kernel
theorem dX0_perforate_80 : decode cX0_perforate 80 = .ok (.putfield 9, 3) := by decide +kernel
theorem dX0_perforate_83 : decode cX0_perforate 83 = .ok (.return_, 1) := by decide +kernel
set_option maxRecDepth 20000 in
theorem ggX0_markRow_X4_isWithin : GoodIn wsX0_markRow wsX4_isWithin := goodIn_r _ [4] (by decide +kernel) (by decide +kernel)
set_option maxRecDepth 20000 in
theorem gX0_markRow_X4_isWithin_n57 : GoodIn wsX0_markRow (wsX4_isWithin) := ggX0_markRow_X4_isWithin
set_option maxRecDepth 20000 in
theorem ggX0_markRow_X0_holeFaults : GoodIn wsX0_markRow wsX0_holeFaults := goodIn_r _ [9, 10, 11, 12, 13, 14, 15, 16, 17, 24, 25, 26, 27, 28, 29, 30, 33, 34] (by decide +kernel) (by decide +kernel)
set_option maxRecDepth 20000 in
theorem gX0_markRow_X0_holeFaults : GoodIn wsX0_markRow (wsV RX0 61 RX0 yX0_holeFaults wsX0_holeFaults) := goodIn_app (goodIn_of _ (by decide +kernel)) ggX0_markRow_X0_holeFaults
set_option maxRecDepth 20000 in
theorem ggX0_markRow_X0_hasWatermark : GoodIn wsX0_markRow wsX0_hasWatermark := goodIn_r _ [21, 22, 23, 24, 25, 26, 27, 28, 29, 30] (by decide +kernel) (by decide +kernel)
set_option maxRecDepth 20000 in
theorem gX0_markRow_X0_hasWatermark : GoodIn wsX0_markRow (wsV RX0 65 RX0 yX0_hasWatermark wsX0_hasWatermark) := goodIn_app (goodIn_of _ (by decide +kernel)) ggX0_markRow_X0_hasWatermark
theorem dX0_markRow_0 : decode cX0_markRow 0 = .ok (.aload_n 0, 1) := by decide +kernel
theorem dX0_markRow_1 : decode cX0_markRow 1 = .ok (.getfield 32, 3) := by decide +kernel
theorem dX0_markRow_4 : decode cX0_markRow 4 = .ok (.bipush (-6), 2) := by decide +kernel
theorem dX0_markRow_6 : decode cX0_markRow 6 = .ok (.bipush 6, 2) := by decide +kernel
theorem dX0_markRow_8 : decode cX0_markRow 8 = .ok (.invokestatic 57, 3) := by decide +kernel
theorem dX0_markRow_11 : decode cX0_markRow 11 = .ok (.ifCond .eq 7, 3) := by decide +kernel
theorem dX0_markRow_14 : decode cX0_markRow 14 = .ok (.iconst 0, 1) := by decide +kernel
theorem dX0_markRow_15 : decode cX0_markRow 15 = .ok (.goto 4, 3) := by decide +kernel
theorem dX0_markRow_18 : decode cX0_markRow 18 = .ok (.iconst 1, 1) := by decide +kernel
theorem dX0_markRow_19 : decode cX0_markRow 19 = .ok (.istore 4, 2) := by decide +kernel
theorem dX0_markRow_21 : decode cX0_markRow 21 = .ok (.iconst 0, 1) := by decide +kernel
theorem dX0_markRow_22 : decode cX0_markRow 22 = .ok (.istore 5, 2) := by decide +kernel
theorem dX0_markRow_24 : decode cX0_markRow 24 = .ok (.iload 5, 2) := by decide +kernel
theorem dX0_markRow_26 : decode cX0_markRow 26 = .ok (.bipush 6, 2) := by decide +kernel
theorem dX0_markRow_28 : decode cX0_markRow 28 = .ok (.if_icmp .ge 68, 3) := by decide +kernel
theorem dX0_markRow_31 : decode cX0_markRow 31 = .ok (.bipush 6, 2) := by decide +kernel
theorem dX0_markRow_33 : decode cX0_markRow 33 = .ok (.iload_n 1, 1) := by decide +kernel
theorem dX0_markRow_34 : decode cX0_markRow 34 = .ok (.imul, 1) := by decide +kernel
theorem dX0_markRow_35 : decode cX0_markRow 35 = .ok (.iload 5, 2) := by decide +kernel
theorem dX0_markRow_37 : decode cX0_markRow 37 = .ok (.iadd, 1) := by decide +kernel
theorem dX0_markRow_38 : decode cX0_markRow 38 = .ok (.istore 6, 2) := by decide +kernel
theorem dX0_markRow_40 : decode cX0_markRow 40 = .ok (.iload 4, 2) := by decide +kernel
theorem dX0_markRow_42 : decode cX0_markRow 42 = .ok (.aload_n 0, 1) := by decide +kernel
theorem dX0_markRow_43 : decode cX0_markRow 43 = .ok (.iload 5, 2) := by decide +kernel
theorem dX0_markRow_45 : decode cX0_markRow 45 = .ok (.invokevirtual 61, 3) := by decide +kernel
theorem dX0_markRow_48 : decode cX0_markRow 48 = .ok (.ior, 1) := by decide +kernel
theorem dX0_markRow_49 : decode cX0_markRow 49 = .ok (.istore 7, 2) := by decide +kernel
theorem dX0_markRow_51 : decode cX0_markRow 51 = .ok (.aload_n 2, 1) := by decide +kernel
theorem dX0_markRow_52 : decode cX0_markRow 52 = .ok (.iload 6, 2) := by decide +kernel
theorem dX0_markRow_54 : decode cX0_markRow 54 = .ok (.baload, 1) := by decide +kernel
theorem dX0_markRow_55 : decode cX0_markRow 55 = .ok (.ifCond .eq 10, 3) := by decide +kernel
theorem dX0_markRow_58 : decode cX0_markRow 58 = .ok (.iload 7, 2) := by decide +kernel
theorem dX0_markRow_60 : decode cX0_markRow 60 = .ok (.bipush 8, 2) := by decide +kernel
theorem dX0_markRow_62 : decode cX0_markRow 62 = .ok (.ior, 1) := by decide +kernel
theorem dX0_markRow_63 : decode cX0_markRow 63 = .ok (.istore 7, 2) := by decide +kernel
theorem dX0_markRow_65 : decode cX0_markRow 65 = .ok (.aload_n 0, 1) := by decide +kernel
theorem dX0_markRow_66 : decode cX0_markRow 66 = .ok (.iload 5, 2) := by decide +kernel
theorem dX0_markRow_68 : decode cX0_markRow 68 = .ok (.invokevirtual 65, 3) := by decide +kernel
theorem dX0_markRow_71 : decode cX0_markRow 71 = .ok (.ifCond .ne 10, 3) := by decide +kernel
theorem dX0_markRow_74 : decode cX0_markRow 74 = .ok (.iload 7, 2) := by decide +kernel
theorem dX0_markRow_76 : decode cX0_markRow 76 = .ok (.bipush 16, 2) := by decide +kernel
theorem dX0_markRow_78 : decode cX0_markRow 78 = .ok (.ior, 1) := by decide +kernel
theorem dX0_markRow_79 : decode cX0_markRow 79 = .ok (.istore 7, 2) := by decide +kernel
theorem dX0_markRow_81 : decode cX0_markRow 81 = .ok (.aload_n 3, 1) := by decide +kernel
theorem dX0_markRow_82 : decode cX0_markRow 82 = .ok (.getfield 69, 3) := by decide +kernel
theorem dX0_markRow_85 : decode cX0_markRow 85 = .ok (.iload 6, 2) := by decide +kernel
theorem dX0_markRow_87 : decode cX0_markRow 87 = .ok (.iload 7, 2) := by decide +kernel
theorem dX0_markRow_89 : decode cX0_markRow 89 = .ok (.iastore, 1) := by decide +kernel
theorem dX0_markRow_90 : decode cX0_markRow 90 = .ok (.iinc 5 1, 3) := by decide +kernel
theorem dX0_markRow_93 : decode cX0_markRow 93 = .ok (.goto (-69), 3) := by decide +kernel
theorem dX0_markRow_96 : decode cX0_markRow 96 = .ok (.return_, 1) := by decide +kernel
set_option maxRecDepth 20000 in
theorem ggX0_holeFaults_X1_isWhole : GoodIn wsX0_holeFaults wsX1_isWhole := goodIn_r _ [6, 7, 8, 16, 17] (by decide +kernel) (by decide +kernel)
set_option maxRecDepth 20000 in
theorem gX0_holeFaults_X1_isWhole : GoodIn wsX0_holeFaults (wsV RX0 75 RX1 yX1_isWhole wsX1_isWhole) := goodIn_app (goodIn_of _ (by decide +kernel)) ggX0_holeFaults_X1_isWhole
theorem dX0_holeFaults_0 : decode cX0_holeFaults 0 = .ok (.iconst 0, 1) := by decide +kernel
theorem dX0_holeFaults_1 : decode cX0_holeFaults 1 = .ok (.istore_n 2, 1) := by decide +kernel
theorem dX0_holeFaults_2 : decode cX0_holeFaults 2 = .ok (.aload_n 0, 1) := by decide +kernel
theorem dX0_holeFaults_3 : decode cX0_holeFaults 3 = .ok (.getfield 20, 3) := by decide +kernel
theorem dX0_holeFaults_6 : decode cX0_holeFaults 6 = .ok (.iload_n 1, 1) := by decide +kernel
theorem dX0_holeFaults_7 : decode cX0_holeFaults 7 = .ok (.aaload, 1) := by decide +kernel
theorem dX0_holeFaults_8 : decode cX0_holeFaults 8 = .ok (.invokevirtual 75, 3) := by decide +kernel
theorem dX0_holeFaults_11 : decode cX0_holeFaults 11 = .ok (.ifCond .ne 7, 3) := by decide +kernel
theorem dX0_holeFaults_14 : decode cX0_holeFaults 14 = .ok (.iload_n 2, 1) := by decide +kernel
theorem dX0_holeFaults_15 : decode cX0_holeFaults 15 = .ok (.iconst 2, 1) := by decide +kernel
theorem dX0_holeFaults_16 : decode cX0_holeFaults 16 = .ok (.ior, 1) := by decide +kernel
theorem dX0_holeFaults_17 : decode cX0_holeFaults 17 = .ok (.istore_n 2, 1) := by decide +kernel
theorem dX0_holeFaults_18 : decode cX0_holeFaults 18 = .ok (.aload_n 0, 1) := by decide +kernel
theorem dX0_holeFaults_19 : decode cX0_holeFaults 19 = .ok (.getfield 20, 3) := by decide +kernel
theorem dX0_holeFaults_22 : decode cX0_holeFaults 22 = .ok (.iload_n 1, 1) := by decide +kernel
theorem dX0_holeFaults_23 : decode cX0_holeFaults 23 = .ok (.iconst 1, 1) := by decide +kernel
theorem dX0_holeFaults_24 : decode cX0_holeFaults 24 = .ok (.iadd, 1) := by decide +kernel
theorem dX0_holeFaults_25 : decode cX0_holeFaults 25 = .ok (.aaload, 1) := by decide +kernel
theorem dX0_holeFaults_26 : decode cX0_holeFaults 26 = .ok (.invokevirtual 75, 3) := by decide +kernel
theorem dX0_holeFaults_29 : decode cX0_holeFaults 29 = .ok (.ifCond .ne 7, 3) := by decide +kernel
theorem dX0_holeFaults_32 : decode cX0_holeFaults 32 = .ok (.iload_n 2, 1) := by decide +kernel
theorem dX0_holeFaults_33 : decode cX0_holeFaults 33 = .ok (.iconst 4, 1) := by decide +kernel
theorem dX0_holeFaults_34 : decode cX0_holeFaults 34 = .ok (.ior, 1) := by decide +kernel
theorem dX0_holeFaults_35 : decode cX0_holeFaults 35 = .ok (.istore_n 2, 1) := by decide +kernel
theorem dX0_holeFaults_36 : decode cX0_holeFaults 36 = .ok (.iload_n 2, 1) := by decide +kernel
theorem dX0_holeFaults_37 : decode cX0_holeFaults 37 = .ok (.ireturn, 1) := by decide +kernel
theorem dX0_hasWatermark_0 : decode cX0_hasWatermark 0 = .ok (.aload_n 0, 1) := by decide +kernel
theorem dX0_hasWatermark_1 : decode cX0_hasWatermark 1 = .ok (.getfield 15, 3) := by decide +kernel
theorem dX0_hasWatermark_4 : decode cX0_hasWatermark 4 = .ok (.ifCond .le 21, 3) := by decide +kernel
theorem dX0_hasWatermark_7 : decode cX0_hasWatermark 7 = .ok (.aload_n 0, 1) := by decide +kernel
theorem dX0_hasWatermark_8 : decode cX0_hasWatermark 8 = .ok (.getfield 38, 3) := by decide +kernel
theorem dX0_hasWatermark_11 : decode cX0_hasWatermark 11 = .ok (.iload_n 1, 1) := by decide +kernel
theorem dX0_hasWatermark_12 : decode cX0_hasWatermark 12 = .ok (.iadd, 1) := by decide +kernel
theorem dX0_hasWatermark_13 : decode cX0_hasWatermark 13 = .ok (.aload_n 0, 1) := by decide +kernel
theorem dX0_hasWatermark_14 : decode cX0_hasWatermark 14 = .ok (.getfield 15, 3) := by decide +kernel
theorem dX0_hasWatermark_17 : decode cX0_hasWatermark 17 = .ok (.irem, 1) := by decide +kernel
theorem dX0_hasWatermark_18 : decode cX0_hasWatermark 18 = .ok (.ifCond .ne 7, 3) := by decide +kernel
theorem dX0_hasWatermark_21 : decode cX0_hasWatermark 21 = .ok (.iconst 1, 1) := by decide +kernel
theorem dX0_hasWatermark_22 : decode cX0_hasWatermark 22 = .ok (.goto 4, 3) := by decide +kernel
theorem dX0_hasWatermark_25 : decode cX0_hasWatermark 25 = .ok (.iconst 0, 1) := by decide +kernel
theorem dX0_hasWatermark_26 : decode cX0_hasWatermark 26 = .ok (.ireturn, 1) := by decide +kernel
set_option maxRecDepth 20000 in
theorem ggX0_strikeAll_X1_strike : GoodIn wsX0_strikeAll wsX1_strike := goodIn_r _ [6, 7, 8, 9, 10, 5, 11, 12, 20, 21] (by decide +kernel) (by decide +kernel)
set_option maxRecDepth 20000 in
theorem gX0_strikeAll_X1_strike : GoodIn wsX0_strikeAll (wsV RX0 79 RX1 yX1_strike wsX1_strike) := goodIn_app (goodIn_of _ (by decide +kernel)) ggX0_strikeAll_X1_strike
theorem dX0_strikeAll_0 : decode cX0_strikeAll 0 = .ok (.iconst 0, 1) := by decide +kernel
theorem dX0_strikeAll_1 : decode cX0_strikeAll 1 = .ok (.istore_n 1, 1) := by decide +kernel
theorem dX0_strikeAll_2 : decode cX0_strikeAll 2 = .ok (.iload_n 1, 1) := by decide +kernel
theorem dX0_strikeAll_3 : decode cX0_strikeAll 3 = .ok (.bipush 7, 2) := by decide +kernel
theorem dX0_strikeAll_5 : decode cX0_strikeAll 5 = .ok (.if_icmp .ge 18, 3) := by decide +kernel
theorem dX0_strikeAll_8 : decode cX0_strikeAll 8 = .ok (.aload_n 0, 1) := by decide +kernel
theorem dX0_strikeAll_9 : decode cX0_strikeAll 9 = .ok (.getfield 20, 3) := by decide +kernel
theorem dX0_strikeAll_12 : decode cX0_strikeAll 12 = .ok (.iload_n 1, 1) := by decide +kernel
theorem dX0_strikeAll_13 : decode cX0_strikeAll 13 = .ok (.aaload, 1) := by decide +kernel
theorem dX0_strikeAll_14 : decode cX0_strikeAll 14 = .ok (.invokevirtual 79, 3) := by decide +kernel
theorem dX0_strikeAll_17 : decode cX0_strikeAll 17 = .ok (.iinc 1 1, 3) := by decide +kernel
theorem dX0_strikeAll_20 : decode cX0_strikeAll 20 = .ok (.goto (-18), 3) := by decide +kernel
theorem dX0_strikeAll_23 : decode cX0_strikeAll 23 = .ok (.return_, 1) := by decide +kernel
set_option maxRecDepth 20000 in
theorem ggX0_brokenPins_X1_isWhole : GoodIn wsX0_brokenPins wsX1_isWhole := goodIn_r _ [6, 7, 8, 16, 17] (by decide +kernel) (by decide +kernel)
set_option maxRecDepth 20000 in
theorem gX0_brokenPins_X1_isWhole : GoodIn wsX0_brokenPins (wsV RX0 75 RX1 yX1_isWhole wsX1_isWhole) := goodIn_app (goodIn_of _ (by decide +kernel)) ggX0_brokenPins_X1_isWhole
theorem dX0_brokenPins_0 : decode cX0_brokenPins 0 = .ok (.iconst 0, 1) := by decide +kernel
theorem dX0_brokenPins_1 : decode cX0_brokenPins 1 = .ok (.istore_n 1, 1) := by decide +kernel
theorem dX0_brokenPins_2 : decode cX0_brokenPins 2 = .ok (.iconst 0, 1) := by decide +kernel
theorem dX0_brokenPins_3 : decode cX0_brokenPins 3 = .ok (.istore_n 2, 1) := by decide +kernel
theorem dX0_brokenPins_4 : decode cX0_brokenPins 4 = .ok (.iload_n 2, 1) := by decide +kernel
theorem dX0_brokenPins_5 : decode cX0_brokenPins 5 = .ok (.bipush 7, 2) := by decide +kernel
theorem dX0_brokenPins_7 : decode cX0_brokenPins 7 = .ok (.if_icmp .ge 24, 3) := by decide +kernel
theorem dX0_brokenPins_10 : decode cX0_brokenPins 10 = .ok (.aload_n 0, 1) := by decide +kernel
theorem dX0_brokenPins_11 : decode cX0_brokenPins 11 = .ok (.getfield 20, 3) := by decide +kernel
theorem dX0_brokenPins_14 : decode cX0_brokenPins 14 = .ok (.iload_n 2, 1) := by decide +kernel
theorem dX0_brokenPins_15 : decode cX0_brokenPins 15 = .ok (.aaload, 1) := by decide +kernel
theorem dX0_brokenPins_16 : decode cX0_brokenPins 16 = .ok (.invokevirtual 75, 3) := by decide +kernel
theorem dX0_brokenPins_19 : decode cX0_brokenPins 19 = .ok (.ifCond .ne 6, 3) := by decide +kernel
theorem dX0_brokenPins_22 : decode cX0_brokenPins 22 = .ok (.iinc 1 1, 3) := by decide +kernel
theorem dX0_brokenPins_25 : decode cX0_brokenPins 25 = .ok (.iinc 2 1, 3) := by decide +kernel
theorem dX0_brokenPins_28 : decode cX0_brokenPins 28 = .ok (.goto (-24), 3) := by decide +kernel
theorem dX0_brokenPins_31 : decode cX0_brokenPins 31 = .ok (.iload_n 1, 1) := by decide +kernel
theorem dX0_brokenPins_32 : decode cX0_brokenPins 32 = .ok (.ireturn, 1) := by decide +kernel
theorem dX1_init_0 : decode cX1_init 0 = .ok (.aload_n 0, 1) := by decide +kernel
theorem dX1_init_1 : decode cX1_init 1 = .ok (.invokespecial 3, 3) := by decide +kernel
theorem dX1_init_4 : decode cX1_init 4 = .ok (.aload_n 0, 1) := by decide +kernel
theorem dX1_init_5 : decode cX1_init 5 = .ok (.sipush 200, 3) := by decide +kernel
theorem dX1_init_8 : decode cX1_init 8 = .ok (.putfield 9, 3) := by decide +kernel
theorem dX1_init_11 : decode cX1_init 11 = .ok (.return_, 1) := by decide +kernel
theorem dX1_isWhole_0 : decode cX1_isWhole 0 = .ok (.aload_n 0, 1) := by decide +kernel
theorem dX1_isWhole_1 : decode cX1_isWhole 1 = .ok (.getfield 15, 3) := by decide +kernel
theorem dX1_isWhole_4 : decode cX1_isWhole 4 = .ok (.aload_n 0, 1) := by decide +kernel
theorem dX1_isWhole_5 : decode cX1_isWhole 5 = .ok (.getfield 9, 3) := by decide +kernel
theorem dX1_isWhole_8 : decode cX1_isWhole 8 = .ok (.if_icmp .gt 7, 3) := by decide +kernel
theorem dX1_isWhole_11 : decode cX1_isWhole 11 = .ok (.iconst 1, 1) := by decide +kernel
theorem dX1_isWhole_12 : decode cX1_isWhole 12 = .ok (.goto 4, 3) := by decide +kernel
theorem dX1_isWhole_15 : decode cX1_isWhole 15 = .ok (.iconst 0, 1) := by decide +kernel
theorem dX1_isWhole_16 : decode cX1_isWhole 16 = .ok (.ireturn, 1) := by decide +kernel
set_option maxRecDepth 20000 in
theorem ggX1_strike_X1_isWhole : GoodIn wsX1_strike wsX1_isWhole := goodIn_r _ [6, 1, 7, 8, 9] (by decide +kernel) (by decide +kernel)
set_option maxRecDepth 20000 in
theorem gX1_strike_X1_isWhole : GoodIn wsX1_strike (wsV RX1 18 RX1 yX1_isWhole wsX1_isWhole) := goodIn_app (goodIn_of _ (by decide +kernel)) ggX1_strike_X1_isWhole
theorem dX1_strike_0 : decode cX1_strike 0 = .ok (.aload_n 0, 1) := by decide +kernel
theorem dX1_strike_1 : decode cX1_strike 1 = .ok (.invokevirtual 18, 3) := by decide +kernel
theorem dX1_strike_4 : decode cX1_strike 4 = .ok (.ifCond .eq 13, 3) := by decide +kernel
theorem dX1_strike_7 : decode cX1_strike 7 = .ok (.aload_n 0, 1) := by decide +kernel
theorem dX1_strike_8 : decode cX1_strike 8 = .ok (.dup, 1) := by decide +kernel
theorem dX1_strike_9 : decode cX1_strike 9 = .ok (.getfield 15, 3) := by decide +kernel
theorem dX1_strike_12 : decode cX1_strike 12 = .ok (.iconst 1, 1) := by decide +kernel
theorem dX1_strike_13 : decode cX1_strike 13 = .ok (.iadd, 1) := by decide +kernel
theorem dX1_strike_14 : decode cX1_strike 14 = .ok (.putfield 15, 3) := by decide +kernel
theorem dX1_strike_17 : decode cX1_strike 17 = .ok (.return_, 1) := by decide +kernel
theorem dX1_becomeLike_0 : decode cX1_becomeLike 0 = .ok (.aload_n 0, 1) := by decide +kernel
theorem dX1_becomeLike_1 : decode cX1_becomeLike 1 = .ok (.aload_n 1, 1) := by decide +kernel
theorem dX1_becomeLike_2 : decode cX1_becomeLike 2 = .ok (.getfield 9, 3) := by decide +kernel
theorem dX1_becomeLike_5 : decode cX1_becomeLike 5 = .ok (.putfield 9, 3) := by decide +kernel
theorem dX1_becomeLike_8 : decode cX1_becomeLike 8 = .ok (.aload_n 0, 1) := by decide +kernel
theorem dX1_becomeLike_9 : decode cX1_becomeLike 9 = .ok (.aload_n 1, 1) := by decide +kernel
theorem dX1_becomeLike_10 : decode cX1_becomeLike 10 = .ok (.getfield 15, 3) := by decide +kernel
theorem dX1_becomeLike_13 : decode cX1_becomeLike 13 = .ok (.putfield 15, 3) := by decide +kernel
theorem dX1_becomeLike_16 : decode cX1_becomeLike 16 = .ok (.return_, 1) := by decide +kernel
set_option maxRecDepth 20000 in
theorem ggX1_answer_X1_isWhole : GoodIn wsX1_answer wsX1_isWhole := goodIn_r _ [7, 2, 1, 8, 9] (by decide +kernel) (by decide +kernel)
set_option maxRecDepth 20000 in
theorem gX1_answer_X1_isWhole : GoodIn wsX1_answer (wsV RX1 18 RX1 yX1_isWhole wsX1_isWhole) := goodIn_app (goodIn_of _ (by decide +kernel)) ggX1_answer_X1_isWhole
theorem dX1_answer_0 : decode cX1_answer 0 = .ok (.iload_n 1, 1) := by decide +kernel
theorem dX1_answer_1 : decode cX1_answer 1 = .ok (.tableswitch 50 0 2 #[27, 32, 37], 27) := by decide +kernel
theorem dX1_answer_28 : decode cX1_answer 28 = .ok (.aload_n 0, 1) := by decide +kernel
theorem dX1_answer_29 : decode cX1_answer 29 = .ok (.getfield 9, 3) := by decide +kernel
theorem dX1_answer_32 : decode cX1_answer 32 = .ok (.ireturn, 1) := by decide +kernel
theorem dX1_answer_33 : decode cX1_answer 33 = .ok (.aload_n 0, 1) := by decide +kernel
theorem dX1_answer_34 : decode cX1_answer 34 = .ok (.getfield 15, 3) := by decide +kernel
theorem dX1_answer_37 : decode cX1_answer 37 = .ok (.ireturn, 1) := by decide +kernel
theorem dX1_answer_38 : decode cX1_answer 38 = .ok (.aload_n 0, 1) := by decide +kernel
theorem dX1_answer_39 : decode cX1_answer 39 = .ok (.invokevirtual 18, 3) := by decide +kernel
theorem dX1_answer_42 : decode cX1_answer 42 = .ok (.ifCond .eq 7, 3) := by decide +kernel
theorem dX1_answer_45 : decode cX1_answer 45 = .ok (.iconst 1, 1) := by decide +kernel
theorem dX1_answer_46 : decode cX1_answer 46 = .ok (.goto 4, 3) := by decide +kernel
theorem dX1_answer_49 : decode cX1_answer 49 = .ok (.iconst 0, 1) := by decide +kernel
theorem dX1_answer_50 : decode cX1_answer 50 = .ok (.ireturn, 1) := by decide +kernel
theorem dX1_answer_51 : decode cX1_answer 51 = .ok (.aload_n 0, 1) := by decide +kernel
theorem dX1_answer_52 : decode cX1_answer 52 = .ok (.invokevirtual 18, 3) := by decide +kernel
theorem dX1_answer_55 : decode cX1_answer 55 = .ok (.ifCond .eq 17, 3) := by decide +kernel
theorem dX1_answer_58 : decode cX1_answer 58 = .ok (.aload_n 0, 1) := by decide +kernel
theorem dX1_answer_59 : decode cX1_answer 59 = .ok (.getfield 9, 3) := by decide +kernel
theorem dX1_answer_62 : decode cX1_answer 62 = .ok (.aload_n 0, 1) := by decide +kernel
theorem dX1_answer_63 : decode cX1_answer 63 = .ok (.getfield 15, 3) := by decide +kernel
theorem dX1_answer_66 : decode cX1_answer 66 = .ok (.isub, 1) := by decide +kernel
theorem dX1_answer_67 : decode cX1_answer 67 = .ok (.iconst 1, 1) := by decide +kernel
theorem dX1_answer_68 : decode cX1_answer 68 = .ok (.iadd, 1) := by decide +kernel
theorem dX1_answer_69 : decode cX1_answer 69 = .ok (.goto 4, 3) := by decide +kernel
theorem dX1_answer_72 : decode cX1_answer 72 = .ok (.iconst 0, 1) := by decide +kernel
theorem dX1_answer_73 : decode cX1_answer 73 = .ok (.ireturn, 1) := by decide +kernel
theorem dX2_init_0 : decode cX2_init 0 = .ok (.aload_n 0, 1) := by decide +kernel
theorem dX2_init_1 : decode cX2_init 1 = .ok (.invokespecial 3, 3) := by decide +kernel
theorem dX2_init_4 : decode cX2_init 4 = .ok (.aload_n 0, 1) := by decide +kernel
theorem dX2_init_5 : decode cX2_init 5 = .ok (.bipush 30, 2) := by decide +kernel
theorem dX2_init_7 : decode cX2_init 7 = .ok (.newarray .int, 2) := by decide +kernel
theorem dX2_init_9 : decode cX2_init 9 = .ok (.putfield 9, 3) := by decide +kernel
theorem dX2_init_12 : decode cX2_init 12 = .ok (.aload_n 0, 1) := by decide +kernel
theorem dX2_init_13 : decode cX2_init 13 = .ok (.bipush 30, 2) := by decide +kernel
theorem dX2_init_15 : decode cX2_init 15 = .ok (.newarray .boolean, 2) := by decide +kernel
theorem dX2_init_17 : decode cX2_init 17 = .ok (.putfield 15, 3) := by decide +kernel
theorem dX2_init_20 : decode cX2_init 20 = .ok (.return_, 1) := by decide +kernel
set_option maxRecDepth 20000 in
theorem ggX2_answer_X2_left : GoodIn wsX2_answer wsX2_left := goodIn_r _ [5, 6, 51, 52] (by decide +kernel) (by decide +kernel)
set_option maxRecDepth 20000 in
theorem gX2_answer_X2_left : GoodIn wsX2_answer (wsV RX2 19 RX2 yX2_left wsX2_left) := goodIn_app (goodIn_of _ (by decide +kernel)) ggX2_answer_X2_left
set_option maxRecDepth 20000 in
theorem ggX2_answer_X2_leftWith : GoodIn wsX2_answer wsX2_leftWith := goodIn_r _ [10, 11, 12, 13, 4, 14, 6, 15, 51, 52] (by decide +kernel) (by decide +kernel)
set_option maxRecDepth 20000 in
theorem gX2_answer_X2_leftWith : GoodIn wsX2_answer (wsV RX2 23 RX2 yX2_leftWith wsX2_leftWith) := goodIn_app (goodIn_of _ (by decide +kernel)) ggX2_answer_X2_leftWith
set_option maxRecDepth 20000 in
theorem ggX2_answer_X2_worth : GoodIn wsX2_answer wsX2_worth := goodIn_r _ [19, 20, 21, 22, 4, 23, 15, 6, 51, 52] (by decide +kernel) (by decide +kernel)
set_option maxRecDepth 20000 in
theorem gX2_answer_X2_worth : GoodIn wsX2_answer (wsV RX2 27 RX2 yX2_worth wsX2_worth) := goodIn_app (goodIn_of _ (by decide +kernel)) ggX2_answer_X2_worth
set_option maxRecDepth 20000 in
theorem ggX2_answer_X2_invertedPairs : GoodIn wsX2_answer wsX2_invertedPairs := goodIn_r _ [27, 28, 29, 30, 4, 31, 6, 15, 51, 52] (by decide +kernel) (by decide +kernel)
set_option maxRecDepth 20000 in
theorem gX2_answer_X2_invertedPairs : GoodIn wsX2_answer (wsV RX2 30 RX2 yX2_invertedPairs wsX2_invertedPairs) := goodIn_app (goodIn_of _ (by decide +kernel)) ggX2_answer_X2_invertedPairs
set_option maxRecDepth 20000 in
theorem ggX2_answer_X2_rowsOff : GoodIn wsX2_answer wsX2_rowsOff := goodIn_r _ [35, 15, 51, 52] (by decide +kernel) (by decide +kernel)
set_option maxRecDepth 20000 in
theorem gX2_answer_X2_rowsOff : GoodIn wsX2_answer (wsV RX2 33 RX2 yX2_rowsOff wsX2_rowsOff) := goodIn_app (goodIn_of _ (by decide +kernel)) ggX2_answer_X2_rowsOff
set_option maxRecDepth 20000 in
theorem ggX2_answer_X2_greatestBlock : GoodIn wsX2_answer wsX2_greatestBlock := goodIn_r _ [39, 40, 41, 42, 43, 44, 45, 46, 4, 47, 11, 12, 13, 14, 6, 15, 48, 49, 50, 51, 52] (by decide +kernel) (by decide +kernel)
set_option maxRecDepth 20000 in
theorem gX2_answer_X2_greatestBlock : GoodIn wsX2_answer (wsV RX2 36 RX2 yX2_greatestBlock wsX2_greatestBlock) := goodIn_app (goodIn_of _ (by decide +kernel)) ggX2_answer_X2_greatestBlock
theorem dX2_answer_0 : decode cX2_answer 0 = .ok (.iload_n 1, 1) := by decide +kernel
theorem dX2_answer_1 : decode cX2_answer 1 = .ok (.tableswitch 61 0 4 #[35, 40, 46, 51, 56], 35) := by decide +kernel
theorem dX2_answer_36 : decode cX2_answer 36 = .ok (.aload_n 0, 1) := by decide +kernel
theorem dX2_answer_37 : decode cX2_answer 37 = .ok (.invokevirtual 19, 3) := by decide +kernel
theorem dX2_answer_40 : decode cX2_answer 40 = .ok (.ireturn, 1) := by decide +kernel
theorem dX2_answer_41 : decode cX2_answer 41 = .ok (.aload_n 0, 1) := by decide +kernel
theorem dX2_answer_42 : decode cX2_answer 42 = .ok (.iconst 0, 1) := by decide +kernel
theorem dX2_answer_43 : decode cX2_answer 43 = .ok (.invokevirtual 23, 3) := by decide +kernel
theorem dX2_answer_46 : decode cX2_answer 46 = .ok (.ireturn, 1) := by decide +kernel
theorem dX2_answer_47 : decode cX2_answer 47 = .ok (.aload_n 0, 1) := by decide +kernel
theorem dX2_answer_48 : decode cX2_answer 48 = .ok (.invokevirtual 27, 3) := by decide +kernel
theorem dX2_answer_51 : decode cX2_answer 51 = .ok (.ireturn, 1) := by decide +kernel
theorem dX2_answer_52 : decode cX2_answer 52 = .ok (.aload_n 0, 1) := by decide +kernel
theorem dX2_answer_53 : decode cX2_answer 53 = .ok (.invokevirtual 30, 3) := by decide +kernel
theorem dX2_answer_56 : decode cX2_answer 56 = .ok (.ireturn, 1) := by decide +kernel
theorem dX2_answer_57 : decode cX2_answer 57 = .ok (.aload_n 0, 1) := by decide +kernel
theorem dX2_answer_58 : decode cX2_answer 58 = .ok (.invokevirtual 33, 3) := by decide +kernel
theorem dX2_answer_61 : decode cX2_answer 61 = .ok (.ireturn, 1) := by decide +kernel
theorem dX2_answer_62 : decode cX2_answer 62 = .ok (.aload_n 0, 1) := by decide +kernel
theorem dX2_answer_63 : decode cX2_answer 63 = .ok (.invokevirtual 36, 3) := by decide +kernel
theorem dX2_answer_66 : decode cX2_answer 66 = .ok (.ireturn, 1) := by decide +kernel
theorem dX2_worthOf_0 : decode cX2_worthOf 0 = .ok (.aload_n 0, 1) := by decide +kernel
theorem dX2_worthOf_1 : decode cX2_worthOf 1 = .ok (.getfield 9, 3) := by decide +kernel
theorem dX2_worthOf_4 : decode cX2_worthOf 4 = .ok (.iload_n 1, 1) := by decide +kernel
theorem dX2_worthOf_5 : decode cX2_worthOf 5 = .ok (.iaload, 1) := by decide +kernel
theorem dX2_worthOf_6 : decode cX2_worthOf 6 = .ok (.istore_n 2, 1) := by decide +kernel
theorem dX2_worthOf_7 : decode cX2_worthOf 7 = .ok (.aload_n 0, 1) := by decide +kernel
theorem dX2_worthOf_8 : decode cX2_worthOf 8 = .ok (.getfield 15, 3) := by decide +kernel
theorem dX2_worthOf_11 : decode cX2_worthOf 11 = .ok (.iload_n 1, 1) := by decide +kernel
theorem dX2_worthOf_12 : decode cX2_worthOf 12 = .ok (.baload, 1) := by decide +kernel
theorem dX2_worthOf_13 : decode cX2_worthOf 13 = .ok (.ifCond .ne 10, 3) := by decide +kernel
theorem dX2_worthOf_16 : decode cX2_worthOf 16 = .ok (.iload_n 2, 1) := by decide +kernel
theorem dX2_worthOf_17 : decode cX2_worthOf 17 = .ok (.bipush 7, 2) := by decide +kernel
theorem dX2_worthOf_19 : decode cX2_worthOf 19 = .ok (.iand, 1) := by decide +kernel
theorem dX2_worthOf_20 : decode cX2_worthOf 20 = .ok (.ifCond .eq 5, 3) := by decide +kernel
theorem dX2_worthOf_23 : decode cX2_worthOf 23 = .ok (.iconst 0, 1) := by decide +kernel
theorem dX2_worthOf_24 : decode cX2_worthOf 24 = .ok (.ireturn, 1) := by decide +kernel
theorem dX2_worthOf_25 : decode cX2_worthOf 25 = .ok (.iconst 1, 1) := by decide +kernel
theorem dX2_worthOf_26 : decode cX2_worthOf 26 = .ok (.istore_n 3, 1) := by decide +kernel
theorem dX2_worthOf_27 : decode cX2_worthOf 27 = .ok (.iload_n 2, 1) := by decide +kernel
theorem dX2_worthOf_28 : decode cX2_worthOf 28 = .ok (.bipush 8, 2) := by decide +kernel
theorem dX2_worthOf_30 : decode cX2_worthOf 30 = .ok (.iand, 1) := by decide +kernel
theorem dX2_worthOf_31 : decode cX2_worthOf 31 = .ok (.ifCond .eq 6, 3) := by decide +kernel
theorem dX2_worthOf_34 : decode cX2_worthOf 34 = .ok (.iinc 3 20, 3) := by decide +kernel
theorem dX2_worthOf_37 : decode cX2_worthOf 37 = .ok (.iload_n 2, 1) := by decide +kernel
theorem dX2_worthOf_38 : decode cX2_worthOf 38 = .ok (.bipush 16, 2) := by decide +kernel
theorem dX2_worthOf_40 : decode cX2_worthOf 40 = .ok (.iand, 1) := by decide +kernel
theorem dX2_worthOf_41 : decode cX2_worthOf 41 = .ok (.ifCond .eq 6, 3) := by decide +kernel
theorem dX2_worthOf_44 : decode cX2_worthOf 44 = .ok (.iinc 3 4, 3) := by decide +kernel
theorem dX2_worthOf_47 : decode cX2_worthOf 47 = .ok (.iload_n 3, 1) := by decide +kernel
theorem dX2_worthOf_48 : decode cX2_worthOf 48 = .ok (.ireturn, 1) := by decide +kernel
set_option maxRecDepth 20000 in
theorem ggX2_worth_X2_worthOf : GoodIn wsX2_worth wsX2_worthOf := goodIn_r _ [5, 6, 7, 8, 9] (by decide +kernel) (by decide +kernel)
set_option maxRecDepth 20000 in
theorem gX2_worth_X2_worthOf : GoodIn wsX2_worth (wsV RX2 39 RX2 yX2_worthOf wsX2_worthOf) := goodIn_app (goodIn_of _ (by decide +kernel)) ggX2_worth_X2_worthOf
theorem dX2_worth_0 : decode cX2_worth 0 = .ok (.iconst 0, 1) := by decide +kernel
theorem dX2_worth_1 : decode cX2_worth 1 = .ok (.istore_n 1, 1) := by decide +kernel
theorem dX2_worth_2 : decode cX2_worth 2 = .ok (.iconst 0, 1) := by decide +kernel
theorem dX2_worth_3 : decode cX2_worth 3 = .ok (.istore_n 2, 1) := by decide +kernel
theorem dX2_worth_4 : decode cX2_worth 4 = .ok (.iload_n 2, 1) := by decide +kernel
theorem dX2_worth_5 : decode cX2_worth 5 = .ok (.bipush 30, 2) := by decide +kernel
theorem dX2_worth_7 : decode cX2_worth 7 = .ok (.if_icmp .ge 17, 3) := by decide +kernel
theorem dX2_worth_10 : decode cX2_worth 10 = .ok (.iload_n 1, 1) := by decide +kernel
theorem dX2_worth_11 : decode cX2_worth 11 = .ok (.aload_n 0, 1) := by decide +kernel
theorem dX2_worth_12 : decode cX2_worth 12 = .ok (.iload_n 2, 1) := by decide +kernel
theorem dX2_worth_13 : decode cX2_worth 13 = .ok (.invokevirtual 39, 3) := by decide +kernel
theorem dX2_worth_16 : decode cX2_worth 16 = .ok (.iadd, 1) := by decide +kernel
theorem dX2_worth_17 : decode cX2_worth 17 = .ok (.istore_n 1, 1) := by decide +kernel
theorem dX2_worth_18 : decode cX2_worth 18 = .ok (.iinc 2 1, 3) := by decide +kernel
theorem dX2_worth_21 : decode cX2_worth 21 = .ok (.goto (-17), 3) := by decide +kernel
theorem dX2_worth_24 : decode cX2_worth 24 = .ok (.iload_n 1, 1) := by decide +kernel
theorem dX2_worth_25 : decode cX2_worth 25 = .ok (.ireturn, 1) := by decide +kernel
theorem dX2_left_0 : decode cX2_left 0 = .ok (.iconst 0, 1) := by decide +kernel
theorem dX2_left_1 : decode cX2_left 1 = .ok (.istore_n 1, 1) := by decide +kernel
theorem dX2_left_2 : decode cX2_left 2 = .ok (.iconst 0, 1) := by decide +kernel
theorem dX2_left_3 : decode cX2_left 3 = .ok (.istore_n 2, 1) := by decide +kernel
theorem dX2_left_4 : decode cX2_left 4 = .ok (.iload_n 2, 1) := by decide +kernel
theorem dX2_left_5 : decode cX2_left 5 = .ok (.bipush 30, 2) := by decide +kernel
theorem dX2_left_7 : decode cX2_left 7 = .ok (.if_icmp .ge 21, 3) := by decide +kernel
theorem dX2_left_10 : decode cX2_left 10 = .ok (.aload_n 0, 1) := by decide +kernel
theorem dX2_left_11 : decode cX2_left 11 = .ok (.getfield 15, 3) := by decide +kernel
theorem dX2_left_14 : decode cX2_left 14 = .ok (.iload_n 2, 1) := by decide +kernel
theorem dX2_left_15 : decode cX2_left 15 = .ok (.baload, 1) := by decide +kernel
theorem dX2_left_16 : decode cX2_left 16 = .ok (.ifCond .ne 6, 3) := by decide +kernel
theorem dX2_left_19 : decode cX2_left 19 = .ok (.iinc 1 1, 3) := by decide +kernel
theorem dX2_left_22 : decode cX2_left 22 = .ok (.iinc 2 1, 3) := by decide +kernel
theorem dX2_left_25 : decode cX2_left 25 = .ok (.goto (-21), 3) := by decide +kernel
theorem dX2_left_28 : decode cX2_left 28 = .ok (.iload_n 1, 1) := by decide +kernel
theorem dX2_left_29 : decode cX2_left 29 = .ok (.ireturn, 1) := by decide +kernel
theorem dX2_isLeftWith_0 : decode cX2_isLeftWith 0 = .ok (.aload_n 0, 1) := by decide +kernel
theorem dX2_isLeftWith_1 : decode cX2_isLeftWith 1 = .ok (.getfield 15, 3) := by decide +kernel
theorem dX2_isLeftWith_4 : decode cX2_isLeftWith 4 = .ok (.iload_n 1, 1) := by decide +kernel
theorem dX2_isLeftWith_5 : decode cX2_isLeftWith 5 = .ok (.baload, 1) := by decide +kernel
theorem dX2_isLeftWith_6 : decode cX2_isLeftWith 6 = .ok (.ifCond .ne 17, 3) := by decide +kernel
theorem dX2_isLeftWith_9 : decode cX2_isLeftWith 9 = .ok (.aload_n 0, 1) := by decide +kernel
theorem dX2_isLeftWith_10 : decode cX2_isLeftWith 10 = .ok (.getfield 9, 3) := by decide +kernel
theorem dX2_isLeftWith_13 : decode cX2_isLeftWith 13 = .ok (.iload_n 1, 1) := by decide +kernel
theorem dX2_isLeftWith_14 : decode cX2_isLeftWith 14 = .ok (.iaload, 1) := by decide +kernel
theorem dX2_isLeftWith_15 : decode cX2_isLeftWith 15 = .ok (.iload_n 2, 1) := by decide +kernel
theorem dX2_isLeftWith_16 : decode cX2_isLeftWith 16 = .ok (.if_icmp .ne 7, 3) := by decide +kernel
theorem dX2_isLeftWith_19 : decode cX2_isLeftWith 19 = .ok (.iconst 1, 1) := by decide +kernel
theorem dX2_isLeftWith_20 : decode cX2_isLeftWith 20 = .ok (.goto 4, 3) := by decide +kernel
theorem dX2_isLeftWith_23 : decode cX2_isLeftWith 23 = .ok (.iconst 0, 1) := by decide +kernel
theorem dX2_isLeftWith_24 : decode cX2_isLeftWith 24 = .ok (.ireturn, 1) := by decide +kernel
set_option maxRecDepth 20000 in
theorem ggX2_leftWith_X2_isLeftWith : GoodIn wsX2_leftWith wsX2_isLeftWith := goodIn_r _ [5, 6, 7, 8, 9] (by decide +kernel) (by decide +kernel)
set_option maxRecDepth 20000 in
theorem gX2_leftWith_X2_isLeftWith : GoodIn wsX2_leftWith (wsV RX2 42 RX2 yX2_isLeftWith wsX2_isLeftWith) := goodIn_app (goodIn_of _ (by decide +kernel)) ggX2_leftWith_X2_isLeftWith
theorem dX2_leftWith_0 : decode cX2_leftWith 0 = .ok (.iconst 0, 1) := by decide +kernel
theorem dX2_leftWith_1 : decode cX2_leftWith 1 = .ok (.istore_n 2, 1) := by decide +kernel
theorem dX2_leftWith_2 : decode cX2_leftWith 2 = .ok (.iconst 0, 1) := by decide +kernel
theorem dX2_leftWith_3 : decode cX2_leftWith 3 = .ok (.istore_n 3, 1) := by decide +kernel
theorem dX2_leftWith_4 : decode cX2_leftWith 4 = .ok (.iload_n 3, 1) := by decide +kernel
theorem dX2_leftWith_5 : decode cX2_leftWith 5 = .ok (.bipush 30, 2) := by decide +kernel
theorem dX2_leftWith_7 : decode cX2_leftWith 7 = .ok (.if_icmp .ge 21, 3) := by decide +kernel
theorem dX2_leftWith_10 : decode cX2_leftWith 10 = .ok (.aload_n 0, 1) := by decide +kernel
theorem dX2_leftWith_11 : decode cX2_leftWith 11 = .ok (.iload_n 3, 1) := by decide +kernel
theorem dX2_leftWith_12 : decode cX2_leftWith 12 = .ok (.iload_n 1, 1) := by decide +kernel
theorem dX2_leftWith_13 : decode cX2_leftWith 13 = .ok (.invokevirtual 42, 3) := by decide +kernel
theorem dX2_leftWith_16 : decode cX2_leftWith 16 = .ok (.ifCond .eq 6, 3) := by decide +kernel
theorem dX2_leftWith_19 : decode cX2_leftWith 19 = .ok (.iinc 2 1, 3) := by decide +kernel
theorem dX2_leftWith_22 : decode cX2_leftWith 22 = .ok (.iinc 3 1, 3) := by decide +kernel
theorem dX2_leftWith_25 : decode cX2_leftWith 25 = .ok (.goto (-21), 3) := by decide +kernel
theorem dX2_leftWith_28 : decode cX2_leftWith 28 = .ok (.iload_n 2, 1) := by decide +kernel
theorem dX2_leftWith_29 : decode cX2_leftWith 29 = .ok (.ireturn, 1) := by decide +kernel
set_option maxRecDepth 20000 in
theorem ggX2_invertedPairs_X2_isInvertedPair : GoodIn wsX2_invertedPairs wsX2_isInvertedPair := goodIn_r _ [5, 6, 7, 8, 9] (by decide +kernel) (by decide +kernel)
set_option maxRecDepth 20000 in
theorem gX2_invertedPairs_X2_isInvertedPair : GoodIn wsX2_invertedPairs (wsV RX2 46 RX2 yX2_isInvertedPair wsX2_isInvertedPair) := goodIn_app (goodIn_of _ (by decide +kernel)) ggX2_invertedPairs_X2_isInvertedPair
theorem dX2_invertedPairs_0 : decode cX2_invertedPairs 0 = .ok (.iconst 0, 1) := by decide +kernel
theorem dX2_invertedPairs_1 : decode cX2_invertedPairs 1 = .ok (.istore_n 1, 1) := by decide +kernel
theorem dX2_invertedPairs_2 : decode cX2_invertedPairs 2 = .ok (.iconst 0, 1) := by decide +kernel
theorem dX2_invertedPairs_3 : decode cX2_invertedPairs 3 = .ok (.istore_n 2, 1) := by decide +kernel
theorem dX2_invertedPairs_4 : decode cX2_invertedPairs 4 = .ok (.iload_n 2, 1) := by decide +kernel
theorem dX2_invertedPairs_5 : decode cX2_invertedPairs 5 = .ok (.iconst 5, 1) := by decide +kernel
theorem dX2_invertedPairs_6 : decode cX2_invertedPairs 6 = .ok (.if_icmp .ge 38, 3) := by decide +kernel
theorem dX2_invertedPairs_9 : decode cX2_invertedPairs 9 = .ok (.iconst 0, 1) := by decide +kernel
theorem dX2_invertedPairs_10 : decode cX2_invertedPairs 10 = .ok (.istore_n 3, 1) := by decide +kernel
theorem dX2_invertedPairs_11 : decode cX2_invertedPairs 11 = .ok (.iload_n 3, 1) := by decide +kernel
theorem dX2_invertedPairs_12 : decode cX2_invertedPairs 12 = .ok (.iconst 5, 1) := by decide +kernel
theorem dX2_invertedPairs_13 : decode cX2_invertedPairs 13 = .ok (.if_icmp .ge 25, 3) := by decide +kernel
theorem dX2_invertedPairs_16 : decode cX2_invertedPairs 16 = .ok (.aload_n 0, 1) := by decide +kernel
theorem dX2_invertedPairs_17 : decode cX2_invertedPairs 17 = .ok (.bipush 6, 2) := by decide +kernel
theorem dX2_invertedPairs_19 : decode cX2_invertedPairs 19 = .ok (.iload_n 2, 1) := by decide +kernel
theorem dX2_invertedPairs_20 : decode cX2_invertedPairs 20 = .ok (.imul, 1) := by decide +kernel
theorem dX2_invertedPairs_21 : decode cX2_invertedPairs 21 = .ok (.iload_n 3, 1) := by decide +kernel
theorem dX2_invertedPairs_22 : decode cX2_invertedPairs 22 = .ok (.iadd, 1) := by decide +kernel
theorem dX2_invertedPairs_23 : decode cX2_invertedPairs 23 = .ok (.invokevirtual 46, 3) := by decide +kernel
theorem dX2_invertedPairs_26 : decode cX2_invertedPairs 26 = .ok (.ifCond .eq 6, 3) := by decide +kernel
theorem dX2_invertedPairs_29 : decode cX2_invertedPairs 29 = .ok (.iinc 1 1, 3) := by decide +kernel
theorem dX2_invertedPairs_32 : decode cX2_invertedPairs 32 = .ok (.iinc 3 1, 3) := by decide +kernel
theorem dX2_invertedPairs_35 : decode cX2_invertedPairs 35 = .ok (.goto (-24), 3) := by decide +kernel
theorem dX2_invertedPairs_38 : decode cX2_invertedPairs 38 = .ok (.iinc 2 1, 3) := by decide +kernel
theorem dX2_invertedPairs_41 : decode cX2_invertedPairs 41 = .ok (.goto (-37), 3) := by decide +kernel
theorem dX2_invertedPairs_44 : decode cX2_invertedPairs 44 = .ok (.iload_n 1, 1) := by decide +kernel
theorem dX2_invertedPairs_45 : decode cX2_invertedPairs 45 = .ok (.ireturn, 1) := by decide +kernel
theorem dX2_isInvertedPair_0 : decode cX2_isInvertedPair 0 = .ok (.iload_n 1, 1) := by decide +kernel
theorem dX2_isInvertedPair_1 : decode cX2_isInvertedPair 1 = .ok (.iconst 1, 1) := by decide +kernel
theorem dX2_isInvertedPair_2 : decode cX2_isInvertedPair 2 = .ok (.iadd, 1) := by decide +kernel
theorem dX2_isInvertedPair_3 : decode cX2_isInvertedPair 3 = .ok (.istore_n 2, 1) := by decide +kernel
theorem dX2_isInvertedPair_4 : decode cX2_isInvertedPair 4 = .ok (.aload_n 0, 1) := by decide +kernel
theorem dX2_isInvertedPair_5 : decode cX2_isInvertedPair 5 = .ok (.getfield 15, 3) := by decide +kernel
theorem dX2_isInvertedPair_8 : decode cX2_isInvertedPair 8 = .ok (.iload_n 1, 1) := by decide +kernel
theorem dX2_isInvertedPair_9 : decode cX2_isInvertedPair 9 = .ok (.baload, 1) := by decide +kernel
theorem dX2_isInvertedPair_10 : decode cX2_isInvertedPair 10 = .ok (.ifCond .ne 35, 3) := by decide +kernel
theorem dX2_isInvertedPair_13 : decode cX2_isInvertedPair 13 = .ok (.aload_n 0, 1) := by decide +kernel
theorem dX2_isInvertedPair_14 : decode cX2_isInvertedPair 14 = .ok (.getfield 15, 3) := by decide +kernel
theorem dX2_isInvertedPair_17 : decode cX2_isInvertedPair 17 = .ok (.iload_n 2, 1) := by decide +kernel
theorem dX2_isInvertedPair_18 : decode cX2_isInvertedPair 18 = .ok (.baload, 1) := by decide +kernel
theorem dX2_isInvertedPair_19 : decode cX2_isInvertedPair 19 = .ok (.ifCond .ne 26, 3) := by decide +kernel
theorem dX2_isInvertedPair_22 : decode cX2_isInvertedPair 22 = .ok (.aload_n 0, 1) := by decide +kernel
theorem dX2_isInvertedPair_23 : decode cX2_isInvertedPair 23 = .ok (.getfield 9, 3) := by decide +kernel
theorem dX2_isInvertedPair_26 : decode cX2_isInvertedPair 26 = .ok (.iload_n 1, 1) := by decide +kernel
theorem dX2_isInvertedPair_27 : decode cX2_isInvertedPair 27 = .ok (.iaload, 1) := by decide +kernel
theorem dX2_isInvertedPair_28 : decode cX2_isInvertedPair 28 = .ok (.aload_n 0, 1) := by decide +kernel
theorem dX2_isInvertedPair_29 : decode cX2_isInvertedPair 29 = .ok (.getfield 9, 3) := by decide +kernel
theorem dX2_isInvertedPair_32 : decode cX2_isInvertedPair 32 = .ok (.iload_n 2, 1) := by decide +kernel
theorem dX2_isInvertedPair_33 : decode cX2_isInvertedPair 33 = .ok (.iaload, 1) := by decide +kernel
theorem dX2_isInvertedPair_34 : decode cX2_isInvertedPair 34 = .ok (.ixor, 1) := by decide +kernel
theorem dX2_isInvertedPair_35 : decode cX2_isInvertedPair 35 = .ok (.bipush 8, 2) := by decide +kernel
theorem dX2_isInvertedPair_37 : decode cX2_isInvertedPair 37 = .ok (.iand, 1) := by decide +kernel
theorem dX2_isInvertedPair_38 : decode cX2_isInvertedPair 38 = .ok (.ifCond .eq 7, 3) := by decide +kernel
theorem dX2_isInvertedPair_41 : decode cX2_isInvertedPair 41 = .ok (.iconst 1, 1) := by decide +kernel
theorem dX2_isInvertedPair_42 : decode cX2_isInvertedPair 42 = .ok (.goto 4, 3) := by decide +kernel
theorem dX2_isInvertedPair_45 : decode cX2_isInvertedPair 45 = .ok (.iconst 0, 1) := by decide +kernel
theorem dX2_isInvertedPair_46 : decode cX2_isInvertedPair 46 = .ok (.ireturn, 1) := by decide +kernel
theorem dX2_rowsOff_0 : decode cX2_rowsOff 0 = .ok (.iconst 0, 1) := by decide +kernel
theorem dX2_rowsOff_1 : decode cX2_rowsOff 1 = .ok (.istore_n 1, 1) := by decide +kernel
theorem dX2_rowsOff_2 : decode cX2_rowsOff 2 = .ok (.iconst 0, 1) := by decide +kernel
theorem dX2_rowsOff_3 : decode cX2_rowsOff 3 = .ok (.istore_n 2, 1) := by decide +kernel
theorem dX2_rowsOff_4 : decode cX2_rowsOff 4 = .ok (.iload_n 2, 1) := by decide +kernel
theorem dX2_rowsOff_5 : decode cX2_rowsOff 5 = .ok (.iconst 5, 1) := by decide +kernel
theorem dX2_rowsOff_6 : decode cX2_rowsOff 6 = .ok (.if_icmp .ge 26, 3) := by decide +kernel
theorem dX2_rowsOff_9 : decode cX2_rowsOff 9 = .ok (.aload_n 0, 1) := by decide +kernel
theorem dX2_rowsOff_10 : decode cX2_rowsOff 10 = .ok (.getfield 9, 3) := by decide +kernel
theorem dX2_rowsOff_13 : decode cX2_rowsOff 13 = .ok (.bipush 6, 2) := by decide +kernel
theorem dX2_rowsOff_15 : decode cX2_rowsOff 15 = .ok (.iload_n 2, 1) := by decide +kernel
theorem dX2_rowsOff_16 : decode cX2_rowsOff 16 = .ok (.imul, 1) := by decide +kernel
theorem dX2_rowsOff_17 : decode cX2_rowsOff 17 = .ok (.iaload, 1) := by decide +kernel
theorem dX2_rowsOff_18 : decode cX2_rowsOff 18 = .ok (.iconst 1, 1) := by decide +kernel
theorem dX2_rowsOff_19 : decode cX2_rowsOff 19 = .ok (.iand, 1) := by decide +kernel
theorem dX2_rowsOff_20 : decode cX2_rowsOff 20 = .ok (.ifCond .eq 6, 3) := by decide +kernel
theorem dX2_rowsOff_23 : decode cX2_rowsOff 23 = .ok (.iinc 1 1, 3) := by decide +kernel
theorem dX2_rowsOff_26 : decode cX2_rowsOff 26 = .ok (.iinc 2 1, 3) := by decide +kernel
theorem dX2_rowsOff_29 : decode cX2_rowsOff 29 = .ok (.goto (-25), 3) := by decide +kernel
theorem dX2_rowsOff_32 : decode cX2_rowsOff 32 = .ok (.iload_n 1, 1) := by decide +kernel
theorem dX2_rowsOff_33 : decode cX2_rowsOff 33 = .ok (.ireturn, 1) := by decide +kernel
set_option maxRecDepth 20000 in
theorem ggX2_greatestBlock_X2_goodColumns : GoodIn wsX2_greatestBlock wsX2_goodColumns := goodIn_r _ [9, 10, 11, 12, 8, 13, 14, 15, 19, 20] (by decide +kernel) (by decide +kernel)
set_option maxRecDepth 20000 in
theorem gX2_greatestBlock_X2_goodColumns : GoodIn wsX2_greatestBlock (wsV RX2 50 RX2 yX2_goodColumns wsX2_goodColumns) := goodIn_app (goodIn_of _ (by decide +kernel)) ggX2_greatestBlock_X2_goodColumns
set_option maxRecDepth 20000 in
theorem ggX2_greatestBlock_X2_longestRun : GoodIn wsX2_greatestBlock wsX2_longestRun := goodIn_r _ [18, 1, 2, 3, 4] (by decide +kernel) (by decide +kernel)
set_option maxRecDepth 20000 in
theorem gX2_greatestBlock_X2_longestRun : GoodIn wsX2_greatestBlock (va_wsS RX2 53 yX2_longestRun wsX2_longestRun) := goodIn_app (goodIn_of _ (by decide +kernel)) ggX2_greatestBlock_X2_longestRun
theorem dX2_greatestBlock_0 : decode cX2_greatestBlock 0 = .ok (.iconst 0, 1) := by decide +kernel
theorem dX2_greatestBlock_1 : decode cX2_greatestBlock 1 = .ok (.istore_n 1, 1) := by decide +kernel
theorem dX2_greatestBlock_2 : decode cX2_greatestBlock 2 = .ok (.iconst 0, 1) := by decide +kernel
theorem dX2_greatestBlock_3 : decode cX2_greatestBlock 3 = .ok (.istore_n 2, 1) := by decide +kernel
theorem dX2_greatestBlock_4 : decode cX2_greatestBlock 4 = .ok (.iload_n 2, 1) := by decide +kernel
theorem dX2_greatestBlock_5 : decode cX2_greatestBlock 5 = .ok (.iconst 5, 1) := by decide +kernel
theorem dX2_greatestBlock_6 : decode cX2_greatestBlock 6 = .ok (.if_icmp .ge 55, 3) := by decide +kernel
theorem dX2_greatestBlock_9 : decode cX2_greatestBlock 9 = .ok (.aload_n 0, 1) := by decide +kernel
theorem dX2_greatestBlock_10 : decode cX2_greatestBlock 10 = .ok (.iload_n 2, 1) := by decide +kernel
theorem dX2_greatestBlock_11 : decode cX2_greatestBlock 11 = .ok (.invokevirtual 50, 3) := by decide +kernel
theorem dX2_greatestBlock_14 : decode cX2_greatestBlock 14 = .ok (.istore_n 3, 1) := by decide +kernel
theorem dX2_greatestBlock_15 : decode cX2_greatestBlock 15 = .ok (.iload_n 2, 1) := by decide +kernel
theorem dX2_greatestBlock_16 : decode cX2_greatestBlock 16 = .ok (.istore 4, 2) := by decide +kernel
theorem dX2_greatestBlock_18 : decode cX2_greatestBlock 18 = .ok (.iload 4, 2) := by decide +kernel
theorem dX2_greatestBlock_20 : decode cX2_greatestBlock 20 = .ok (.iconst 5, 1) := by decide +kernel
theorem dX2_greatestBlock_21 : decode cX2_greatestBlock 21 = .ok (.if_icmp .ge 34, 3) := by decide +kernel
theorem dX2_greatestBlock_24 : decode cX2_greatestBlock 24 = .ok (.iload_n 3, 1) := by decide +kernel
theorem dX2_greatestBlock_25 : decode cX2_greatestBlock 25 = .ok (.aload_n 0, 1) := by decide +kernel
theorem dX2_greatestBlock_26 : decode cX2_greatestBlock 26 = .ok (.iload 4, 2) := by decide +kernel
theorem dX2_greatestBlock_28 : decode cX2_greatestBlock 28 = .ok (.invokevirtual 50, 3) := by decide +kernel
theorem dX2_greatestBlock_31 : decode cX2_greatestBlock 31 = .ok (.iand, 1) := by decide +kernel
theorem dX2_greatestBlock_32 : decode cX2_greatestBlock 32 = .ok (.istore_n 3, 1) := by decide +kernel
theorem dX2_greatestBlock_33 : decode cX2_greatestBlock 33 = .ok (.iload_n 1, 1) := by decide +kernel
theorem dX2_greatestBlock_34 : decode cX2_greatestBlock 34 = .ok (.iload 4, 2) := by decide +kernel
theorem dX2_greatestBlock_36 : decode cX2_greatestBlock 36 = .ok (.iload_n 2, 1) := by decide +kernel
theorem dX2_greatestBlock_37 : decode cX2_greatestBlock 37 = .ok (.isub, 1) := by decide +kernel
theorem dX2_greatestBlock_38 : decode cX2_greatestBlock 38 = .ok (.iconst 1, 1) := by decide +kernel
theorem dX2_greatestBlock_39 : decode cX2_greatestBlock 39 = .ok (.iadd, 1) := by decide +kernel
theorem dX2_greatestBlock_40 : decode cX2_greatestBlock 40 = .ok (.iload_n 3, 1) := by decide +kernel
theorem dX2_greatestBlock_41 : decode cX2_greatestBlock 41 = .ok (.invokestatic 53, 3) := by decide +kernel
theorem dX2_greatestBlock_44 : decode cX2_greatestBlock 44 = .ok (.imul, 1) := by decide +kernel
theorem dX2_greatestBlock_45 : decode cX2_greatestBlock 45 = .ok (.invokestatic 56, 3) := by decide +kernel
theorem dX2_greatestBlock_48 : decode cX2_greatestBlock 48 = .ok (.istore_n 1, 1) := by decide +kernel
theorem dX2_greatestBlock_49 : decode cX2_greatestBlock 49 = .ok (.iinc 4 1, 3) := by decide +kernel
theorem dX2_greatestBlock_52 : decode cX2_greatestBlock 52 = .ok (.goto (-34), 3) := by decide +kernel
theorem dX2_greatestBlock_55 : decode cX2_greatestBlock 55 = .ok (.iinc 2 1, 3) := by decide +kernel
theorem dX2_greatestBlock_58 : decode cX2_greatestBlock 58 = .ok (.goto (-54), 3) := by decide +kernel
theorem dX2_greatestBlock_61 : decode cX2_greatestBlock 61 = .ok (.iload_n 1, 1) := by decide +kernel
theorem dX2_greatestBlock_62 : decode cX2_greatestBlock 62 = .ok (.ireturn, 1) := by decide +kernel
set_option maxRecDepth 20000 in
theorem ggX2_goodColumns_X2_isLeftWith : GoodIn wsX2_goodColumns wsX2_isLeftWith := goodIn_r _ [5, 6, 7, 8, 9] (by decide +kernel) (by decide +kernel)
set_option maxRecDepth 20000 in
theorem gX2_goodColumns_X2_isLeftWith : GoodIn wsX2_goodColumns (wsV RX2 42 RX2 yX2_isLeftWith wsX2_isLeftWith) := goodIn_app (goodIn_of _ (by decide +kernel)) ggX2_goodColumns_X2_isLeftWith
theorem dX2_goodColumns_0 : decode cX2_goodColumns 0 = .ok (.iconst 0, 1) := by decide +kernel
theorem dX2_goodColumns_1 : decode cX2_goodColumns 1 = .ok (.istore_n 2, 1) := by decide +kernel
theorem dX2_goodColumns_2 : decode cX2_goodColumns 2 = .ok (.iconst 0, 1) := by decide +kernel
theorem dX2_goodColumns_3 : decode cX2_goodColumns 3 = .ok (.istore_n 3, 1) := by decide +kernel
theorem dX2_goodColumns_4 : decode cX2_goodColumns 4 = .ok (.iload_n 3, 1) := by decide +kernel
theorem dX2_goodColumns_5 : decode cX2_goodColumns 5 = .ok (.bipush 6, 2) := by decide +kernel
theorem dX2_goodColumns_7 : decode cX2_goodColumns 7 = .ok (.if_icmp .ge 29, 3) := by decide +kernel
theorem dX2_goodColumns_10 : decode cX2_goodColumns 10 = .ok (.aload_n 0, 1) := by decide +kernel
theorem dX2_goodColumns_11 : decode cX2_goodColumns 11 = .ok (.bipush 6, 2) := by decide +kernel
theorem dX2_goodColumns_13 : decode cX2_goodColumns 13 = .ok (.iload_n 1, 1) := by decide +kernel
theorem dX2_goodColumns_14 : decode cX2_goodColumns 14 = .ok (.imul, 1) := by decide +kernel
theorem dX2_goodColumns_15 : decode cX2_goodColumns 15 = .ok (.iload_n 3, 1) := by decide +kernel
theorem dX2_goodColumns_16 : decode cX2_goodColumns 16 = .ok (.iadd, 1) := by decide +kernel
theorem dX2_goodColumns_17 : decode cX2_goodColumns 17 = .ok (.iconst 0, 1) := by decide +kernel
theorem dX2_goodColumns_18 : decode cX2_goodColumns 18 = .ok (.invokevirtual 42, 3) := by decide +kernel
theorem dX2_goodColumns_21 : decode cX2_goodColumns 21 = .ok (.ifCond .eq 9, 3) := by decide +kernel
theorem dX2_goodColumns_24 : decode cX2_goodColumns 24 = .ok (.iload_n 2, 1) := by decide +kernel
theorem dX2_goodColumns_25 : decode cX2_goodColumns 25 = .ok (.iconst 1, 1) := by decide +kernel
theorem dX2_goodColumns_26 : decode cX2_goodColumns 26 = .ok (.iload_n 3, 1) := by decide +kernel
theorem dX2_goodColumns_27 : decode cX2_goodColumns 27 = .ok (.ishl, 1) := by decide +kernel
theorem dX2_goodColumns_28 : decode cX2_goodColumns 28 = .ok (.ior, 1) := by decide +kernel
theorem dX2_goodColumns_29 : decode cX2_goodColumns 29 = .ok (.istore_n 2, 1) := by decide +kernel
theorem dX2_goodColumns_30 : decode cX2_goodColumns 30 = .ok (.iinc 3 1, 3) := by decide +kernel
theorem dX2_goodColumns_33 : decode cX2_goodColumns 33 = .ok (.goto (-29), 3) := by decide +kernel
theorem dX2_goodColumns_36 : decode cX2_goodColumns 36 = .ok (.iload_n 2, 1) := by decide +kernel
theorem dX2_goodColumns_37 : decode cX2_goodColumns 37 = .ok (.ireturn, 1) := by decide +kernel
theorem dX2_longestRun_0 : decode cX2_longestRun 0 = .ok (.iconst 0, 1) := by decide +kernel
theorem dX2_longestRun_1 : decode cX2_longestRun 1 = .ok (.istore_n 1, 1) := by decide +kernel
theorem dX2_longestRun_2 : decode cX2_longestRun 2 = .ok (.iconst 0, 1) := by decide +kernel
theorem dX2_longestRun_3 : decode cX2_longestRun 3 = .ok (.istore_n 2, 1) := by decide +kernel
theorem dX2_longestRun_4 : decode cX2_longestRun 4 = .ok (.iconst 0, 1) := by decide +kernel
theorem dX2_longestRun_5 : decode cX2_longestRun 5 = .ok (.istore_n 3, 1) := by decide +kernel
theorem dX2_longestRun_6 : decode cX2_longestRun 6 = .ok (.iload_n 3, 1) := by decide +kernel
theorem dX2_longestRun_7 : decode cX2_longestRun 7 = .ok (.bipush 6, 2) := by decide +kernel
theorem dX2_longestRun_9 : decode cX2_longestRun 9 = .ok (.if_icmp .ge 31, 3) := by decide +kernel
theorem dX2_longestRun_12 : decode cX2_longestRun 12 = .ok (.iload_n 0, 1) := by decide +kernel
theorem dX2_longestRun_13 : decode cX2_longestRun 13 = .ok (.iconst 1, 1) := by decide +kernel
theorem dX2_longestRun_14 : decode cX2_longestRun 14 = .ok (.iload_n 3, 1) := by decide +kernel
theorem dX2_longestRun_15 : decode cX2_longestRun 15 = .ok (.ishl, 1) := by decide +kernel
theorem dX2_longestRun_16 : decode cX2_longestRun 16 = .ok (.iand, 1) := by decide +kernel
theorem dX2_longestRun_17 : decode cX2_longestRun 17 = .ok (.ifCond .eq 9, 3) := by decide +kernel
theorem dX2_longestRun_20 : decode cX2_longestRun 20 = .ok (.iload_n 2, 1) := by decide +kernel
theorem dX2_longestRun_21 : decode cX2_longestRun 21 = .ok (.iconst 1, 1) := by decide +kernel
theorem dX2_longestRun_22 : decode cX2_longestRun 22 = .ok (.iadd, 1) := by decide +kernel
theorem dX2_longestRun_23 : decode cX2_longestRun 23 = .ok (.goto 4, 3) := by decide +kernel
theorem dX2_longestRun_26 : decode cX2_longestRun 26 = .ok (.iconst 0, 1) := by decide +kernel
theorem dX2_longestRun_27 : decode cX2_longestRun 27 = .ok (.istore_n 2, 1) := by decide +kernel
theorem dX2_longestRun_28 : decode cX2_longestRun 28 = .ok (.iload_n 1, 1) := by decide +kernel
theorem dX2_longestRun_29 : decode cX2_longestRun 29 = .ok (.iload_n 2, 1) := by decide +kernel
theorem dX2_longestRun_30 : decode cX2_longestRun 30 = .ok (.invokestatic 56, 3) := by decide +kernel
theorem dX2_longestRun_33 : decode cX2_longestRun 33 = .ok (.istore_n 1, 1) := by decide +kernel
theorem dX2_longestRun_34 : decode cX2_longestRun 34 = .ok (.iinc 3 1, 3) := by decide +kernel
theorem dX2_longestRun_37 : decode cX2_longestRun 37 = .ok (.goto (-31), 3) := by decide +kernel
theorem dX2_longestRun_40 : decode cX2_longestRun 40 = .ok (.iload_n 1, 1) := by decide +kernel
theorem dX2_longestRun_41 : decode cX2_longestRun 41 = .ok (.ireturn, 1) := by decide +kernel
set_option maxRecDepth 20000 in
theorem ggX2_addToDigest_X2_answer : GoodIn wsX2_addToDigest wsX2_answer := goodIn_r _ [7, 8, 9, 10, 6, 11, 12, 13, 14, 15, 16, 17, 18, 19, 20, 2, 21, 22, 23, 24, 25, 26, 27, 28, 29, 30, 31, 32, 33, 34, 35, 36, 37, 38, 39, 40, 41, 42, 43, 44, 45, 46, 47, 48, 49, 50, 51, 52, 53, 54, 55, 56, 57] (by decide +kernel) (by decide +kernel)
set_option maxRecDepth 20000 in
theorem gX2_addToDigest_X2_answer : GoodIn wsX2_addToDigest (wsV RX2 64 RX2 yX2_answer wsX2_answer) := goodIn_app (goodIn_of _ (by decide +kernel)) ggX2_addToDigest_X2_answer
set_option maxRecDepth 20000 in
theorem ggX2_addToDigest_X2_worthOf : GoodIn wsX2_addToDigest wsX2_worthOf := goodIn_r _ [28, 2, 12, 56, 57] (by decide +kernel) (by decide +kernel)
set_option maxRecDepth 20000 in
theorem gX2_addToDigest_X2_worthOf : GoodIn wsX2_addToDigest (wsV RX2 39 RX2 yX2_worthOf wsX2_worthOf) := goodIn_app (goodIn_of _ (by decide +kernel)) ggX2_addToDigest_X2_worthOf
theorem dX2_addToDigest_0 : decode cX2_addToDigest 0 = .ok (.lload_n 1, 1) := by decide +kernel
theorem dX2_addToDigest_1 : decode cX2_addToDigest 1 = .ok (.lstore_n 3, 1) := by decide +kernel
theorem dX2_addToDigest_2 : decode cX2_addToDigest 2 = .ok (.iconst 0, 1) := by decide +kernel
theorem dX2_addToDigest_3 : decode cX2_addToDigest 3 = .ok (.istore 5, 2) := by decide +kernel
theorem dX2_addToDigest_5 : decode cX2_addToDigest 5 = .ok (.iload 5, 2) := by decide +kernel
theorem dX2_addToDigest_7 : decode cX2_addToDigest 7 = .ok (.bipush 6, 2) := by decide +kernel
theorem dX2_addToDigest_9 : decode cX2_addToDigest 9 = .ok (.if_icmp .ge 23, 3) := by decide +kernel
theorem dX2_addToDigest_12 : decode cX2_addToDigest 12 = .ok (.lload_n 3, 1) := by decide +kernel
theorem dX2_addToDigest_13 : decode cX2_addToDigest 13 = .ok (.ldc2_w 62, 3) := by decide +kernel
theorem dX2_addToDigest_16 : decode cX2_addToDigest 16 = .ok (.lmul, 1) := by decide +kernel
theorem dX2_addToDigest_17 : decode cX2_addToDigest 17 = .ok (.aload_n 0, 1) := by decide +kernel
theorem dX2_addToDigest_18 : decode cX2_addToDigest 18 = .ok (.iload 5, 2) := by decide +kernel
theorem dX2_addToDigest_20 : decode cX2_addToDigest 20 = .ok (.invokevirtual 64, 3) := by decide +kernel
theorem dX2_addToDigest_23 : decode cX2_addToDigest 23 = .ok (.i2l, 1) := by decide +kernel
theorem dX2_addToDigest_24 : decode cX2_addToDigest 24 = .ok (.ladd, 1) := by decide +kernel
theorem dX2_addToDigest_25 : decode cX2_addToDigest 25 = .ok (.lstore_n 3, 1) := by decide +kernel
theorem dX2_addToDigest_26 : decode cX2_addToDigest 26 = .ok (.iinc 5 1, 3) := by decide +kernel
theorem dX2_addToDigest_29 : decode cX2_addToDigest 29 = .ok (.goto (-24), 3) := by decide +kernel
theorem dX2_addToDigest_32 : decode cX2_addToDigest 32 = .ok (.iconst 0, 1) := by decide +kernel
theorem dX2_addToDigest_33 : decode cX2_addToDigest 33 = .ok (.istore 5, 2) := by decide +kernel
theorem dX2_addToDigest_35 : decode cX2_addToDigest 35 = .ok (.iload 5, 2) := by decide +kernel
theorem dX2_addToDigest_37 : decode cX2_addToDigest 37 = .ok (.bipush 30, 2) := by decide +kernel
theorem dX2_addToDigest_39 : decode cX2_addToDigest 39 = .ok (.if_icmp .ge 38, 3) := by decide +kernel
theorem dX2_addToDigest_42 : decode cX2_addToDigest 42 = .ok (.lload_n 3, 1) := by decide +kernel
theorem dX2_addToDigest_43 : decode cX2_addToDigest 43 = .ok (.ldc2_w 62, 3) := by decide +kernel
theorem dX2_addToDigest_46 : decode cX2_addToDigest 46 = .ok (.lmul, 1) := by decide +kernel
theorem dX2_addToDigest_47 : decode cX2_addToDigest 47 = .ok (.aload_n 0, 1) := by decide +kernel
theorem dX2_addToDigest_48 : decode cX2_addToDigest 48 = .ok (.getfield 9, 3) := by decide +kernel
theorem dX2_addToDigest_51 : decode cX2_addToDigest 51 = .ok (.iload 5, 2) := by decide +kernel
theorem dX2_addToDigest_53 : decode cX2_addToDigest 53 = .ok (.iaload, 1) := by decide +kernel
theorem dX2_addToDigest_54 : decode cX2_addToDigest 54 = .ok (.i2l, 1) := by decide +kernel
theorem dX2_addToDigest_55 : decode cX2_addToDigest 55 = .ok (.ladd, 1) := by decide +kernel
theorem dX2_addToDigest_56 : decode cX2_addToDigest 56 = .ok (.lstore_n 3, 1) := by decide +kernel
theorem dX2_addToDigest_57 : decode cX2_addToDigest 57 = .ok (.lload_n 3, 1) := by decide +kernel
theorem dX2_addToDigest_58 : decode cX2_addToDigest 58 = .ok (.ldc2_w 62, 3) := by decide +kernel
theorem dX2_addToDigest_61 : decode cX2_addToDigest 61 = .ok (.lmul, 1) := by decide +kernel
theorem dX2_addToDigest_62 : decode cX2_addToDigest 62 = .ok (.aload_n 0, 1) := by decide +kernel
theorem dX2_addToDigest_63 : decode cX2_addToDigest 63 = .ok (.iload 5, 2) := by decide +kernel
theorem dX2_addToDigest_65 : decode cX2_addToDigest 65 = .ok (.invokevirtual 39, 3) := by decide +kernel
theorem dX2_addToDigest_68 : decode cX2_addToDigest 68 = .ok (.i2l, 1) := by decide +kernel
theorem dX2_addToDigest_69 : decode cX2_addToDigest 69 = .ok (.ladd, 1) := by decide +kernel
theorem dX2_addToDigest_70 : decode cX2_addToDigest 70 = .ok (.lstore_n 3, 1) := by decide +kernel
theorem dX2_addToDigest_71 : decode cX2_addToDigest 71 = .ok (.iinc 5 1, 3) := by decide +kernel
theorem dX2_addToDigest_74 : decode cX2_addToDigest 74 = .ok (.goto (-39), 3) := by decide +kernel
theorem dX2_addToDigest_77 : decode cX2_addToDigest 77 = .ok (.lload_n 3, 1) := by decide +kernel
theorem dX2_addToDigest_78 : decode cX2_addToDigest 78 = .ok (.lreturn, 1) := by decide +kernel
set_option maxRecDepth 20000 in
theorem ggX3_init_X0_init : GoodIn wsX3_init wsX0_init := goodIn_r _ [14, 15, 2, 3, 16, 17, 18, 19, 20, 21, 22, 23, 24, 25, 34, 35, 36, 37, 38, 39, 40, 47, 48] (by decide +kernel) (by decide +kernel)
set_option maxRecDepth 20000 in
theorem gX3_init_X0_init : GoodIn wsX3_init (wsX0_init) := ggX3_init_X0_init
set_option maxRecDepth 20000 in
theorem ggX3_init_X2_init : GoodIn wsX3_init wsX2_init := goodIn_r _ [28, 29, 2, 3, 30, 31, 32, 33, 45, 46] (by decide +kernel) (by decide +kernel)
set_option maxRecDepth 20000 in
theorem gX3_init_X2_init : GoodIn wsX3_init (wsX2_init) := ggX3_init_X2_init
theorem dX3_init_0 : decode cX3_init 0 = .ok (.aload_n 0, 1) := by decide +kernel
theorem dX3_init_1 : decode cX3_init 1 = .ok (.invokespecial 1, 3) := by decide +kernel
theorem dX3_init_4 : decode cX3_init 4 = .ok (.aload_n 0, 1) := by decide +kernel
theorem dX3_init_5 : decode cX3_init 5 = .ok (.new 7, 3) := by decide +kernel
theorem dX3_init_8 : decode cX3_init 8 = .ok (.dup, 1) := by decide +kernel
theorem dX3_init_9 : decode cX3_init 9 = .ok (.invokespecial 9, 3) := by decide +kernel
theorem dX3_init_12 : decode cX3_init 12 = .ok (.putfield 10, 3) := by decide +kernel
theorem dX3_init_15 : decode cX3_init 15 = .ok (.aload_n 0, 1) := by decide +kernel
theorem dX3_init_16 : decode cX3_init 16 = .ok (.new 16, 3) := by decide +kernel
theorem dX3_init_19 : decode cX3_init 19 = .ok (.dup, 1) := by decide +kernel
theorem dX3_init_20 : decode cX3_init 20 = .ok (.invokespecial 18, 3) := by decide +kernel
theorem dX3_init_23 : decode cX3_init 23 = .ok (.putfield 19, 3) := by decide +kernel
theorem dX3_init_26 : decode cX3_init 26 = .ok (.return_, 1) := by decide +kernel
set_option maxRecDepth 20000 in
theorem ggX3_perforateFrom_X0_becomeLike : GoodIn wsX3_perforateFrom wsX0_becomeLike := goodIn_r _ [9, 10, 11, 12, 13, 14, 15, 16, 17, 18, 19, 20, 21, 22, 23, 86, 87, 88, 89, 90, 91, 92, 93, 94] (by decide +kernel) (by decide +kernel)
set_option maxRecDepth 20000 in
theorem gX3_perforateFrom_X0_becomeLike : GoodIn wsX3_perforateFrom (wsV RX3 23 RX0 yX0_becomeLike wsX0_becomeLike) := goodIn_app (goodIn_of _ (by decide +kernel)) ggX3_perforateFrom_X0_becomeLike
set_option maxRecDepth 20000 in
theorem ggX3_perforateFrom_X0_perforate : GoodIn wsX3_perforateFrom wsX0_perforate := goodIn_r _ [27, 13, 11, 14, 15, 12, 28, 29, 30, 31, 32, 33, 34, 35, 36, 37, 8, 38, 39, 40, 41, 42, 43, 44, 45, 10, 46, 47, 48, 20, 49, 23, 22, 50, 51, 52, 53, 16, 54, 55, 56, 57, 58, 59, 60, 61, 62, 86, 87, 88, 89, 90, 91, 92, 95, 96, 93, 94] (by decide +kernel) (by decide +kernel)
set_option maxRecDepth 20000 in
theorem gX3_perforateFrom_X0_perforate : GoodIn wsX3_perforateFrom (wsV RX3 37 RX0 yX0_perforate wsX0_perforate) := goodIn_app (goodIn_of _ (by decide +kernel)) ggX3_perforateFrom_X0_perforate
set_option maxRecDepth 20000 in
theorem ggX3_perforateFrom_X2_leftWith : GoodIn wsX3_perforateFrom wsX2_leftWith := goodIn_r _ [67, 68, 69, 70, 66, 71, 72, 73, 95, 96] (by decide +kernel) (by decide +kernel)
set_option maxRecDepth 20000 in
theorem gX3_perforateFrom_X2_leftWith : GoodIn wsX3_perforateFrom (wsV RX3 41 RX2 yX2_leftWith wsX2_leftWith) := goodIn_app (goodIn_of _ (by decide +kernel)) ggX3_perforateFrom_X2_leftWith
set_option maxRecDepth 20000 in
theorem ggX3_perforateFrom_X2_worth : GoodIn wsX3_perforateFrom wsX2_worth := goodIn_r _ [77, 78, 79, 80, 66, 81, 73, 72, 95, 96] (by decide +kernel) (by decide +kernel)
set_option maxRecDepth 20000 in
theorem gX3_perforateFrom_X2_worth : GoodIn wsX3_perforateFrom (wsV RX3 45 RX2 yX2_worth wsX2_worth) := goodIn_app (goodIn_of _ (by decide +kernel)) ggX3_perforateFrom_X2_worth
theorem dX3_perforateFrom_0 : decode cX3_perforateFrom 0 = .ok (.aload_n 0, 1) := by decide +kernel
theorem dX3_perforateFrom_1 : decode cX3_perforateFrom 1 = .ok (.getfield 10, 3) := by decide +kernel
theorem dX3_perforateFrom_4 : decode cX3_perforateFrom 4 = .ok (.aload_n 1, 1) := by decide +kernel
theorem dX3_perforateFrom_5 : decode cX3_perforateFrom 5 = .ok (.invokevirtual 23, 3) := by decide +kernel
theorem dX3_perforateFrom_8 : decode cX3_perforateFrom 8 = .ok (.aload_n 0, 1) := by decide +kernel
theorem dX3_perforateFrom_9 : decode cX3_perforateFrom 9 = .ok (.getfield 10, 3) := by decide +kernel
theorem dX3_perforateFrom_12 : decode cX3_perforateFrom 12 = .ok (.iload_n 2, 1) := by decide +kernel
theorem dX3_perforateFrom_13 : decode cX3_perforateFrom 13 = .ok (.putfield 27, 3) := by decide +kernel
theorem dX3_perforateFrom_16 : decode cX3_perforateFrom 16 = .ok (.aload_n 0, 1) := by decide +kernel
theorem dX3_perforateFrom_17 : decode cX3_perforateFrom 17 = .ok (.iconst 0, 1) := by decide +kernel
theorem dX3_perforateFrom_18 : decode cX3_perforateFrom 18 = .ok (.putfield 31, 3) := by decide +kernel
theorem dX3_perforateFrom_21 : decode cX3_perforateFrom 21 = .ok (.aload_n 0, 1) := by decide +kernel
theorem dX3_perforateFrom_22 : decode cX3_perforateFrom 22 = .ok (.iconst 0, 1) := by decide +kernel
theorem dX3_perforateFrom_23 : decode cX3_perforateFrom 23 = .ok (.putfield 34, 3) := by decide +kernel
theorem dX3_perforateFrom_26 : decode cX3_perforateFrom 26 = .ok (.iconst 0, 1) := by decide +kernel
theorem dX3_perforateFrom_27 : decode cX3_perforateFrom 27 = .ok (.istore 5, 2) := by decide +kernel
theorem dX3_perforateFrom_29 : decode cX3_perforateFrom 29 = .ok (.iload 5, 2) := by decide +kernel
theorem dX3_perforateFrom_31 : decode cX3_perforateFrom 31 = .ok (.iload 4, 2) := by decide +kernel
theorem dX3_perforateFrom_33 : decode cX3_perforateFrom 33 = .ok (.if_icmp .ge 54, 3) := by decide +kernel
theorem dX3_perforateFrom_36 : decode cX3_perforateFrom 36 = .ok (.aload_n 0, 1) := by decide +kernel
theorem dX3_perforateFrom_37 : decode cX3_perforateFrom 37 = .ok (.getfield 10, 3) := by decide +kernel
theorem dX3_perforateFrom_40 : decode cX3_perforateFrom 40 = .ok (.aload_n 3, 1) := by decide +kernel
theorem dX3_perforateFrom_41 : decode cX3_perforateFrom 41 = .ok (.aload_n 0, 1) := by decide +kernel
theorem dX3_perforateFrom_42 : decode cX3_perforateFrom 42 = .ok (.getfield 19, 3) := by decide +kernel
theorem dX3_perforateFrom_45 : decode cX3_perforateFrom 45 = .ok (.invokevirtual 37, 3) := by decide +kernel
theorem dX3_perforateFrom_48 : decode cX3_perforateFrom 48 = .ok (.aload_n 0, 1) := by decide +kernel
theorem dX3_perforateFrom_49 : decode cX3_perforateFrom 49 = .ok (.dup, 1) := by decide +kernel
theorem dX3_perforateFrom_50 : decode cX3_perforateFrom 50 = .ok (.getfield 31, 3) := by decide +kernel
theorem dX3_perforateFrom_53 : decode cX3_perforateFrom 53 = .ok (.aload_n 0, 1) := by decide +kernel
theorem dX3_perforateFrom_54 : decode cX3_perforateFrom 54 = .ok (.getfield 19, 3) := by decide +kernel
theorem dX3_perforateFrom_57 : decode cX3_perforateFrom 57 = .ok (.iconst 0, 1) := by decide +kernel
theorem dX3_perforateFrom_58 : decode cX3_perforateFrom 58 = .ok (.invokevirtual 41, 3) := by decide +kernel
theorem dX3_perforateFrom_61 : decode cX3_perforateFrom 61 = .ok (.iadd, 1) := by decide +kernel
theorem dX3_perforateFrom_62 : decode cX3_perforateFrom 62 = .ok (.putfield 31, 3) := by decide +kernel
theorem dX3_perforateFrom_65 : decode cX3_perforateFrom 65 = .ok (.aload_n 0, 1) := by decide +kernel
theorem dX3_perforateFrom_66 : decode cX3_perforateFrom 66 = .ok (.dup, 1) := by decide +kernel
theorem dX3_perforateFrom_67 : decode cX3_perforateFrom 67 = .ok (.getfield 34, 3) := by decide +kernel
theorem dX3_perforateFrom_70 : decode cX3_perforateFrom 70 = .ok (.aload_n 0, 1) := by decide +kernel
theorem dX3_perforateFrom_71 : decode cX3_perforateFrom 71 = .ok (.getfield 19, 3) := by decide +kernel
theorem dX3_perforateFrom_74 : decode cX3_perforateFrom 74 = .ok (.invokevirtual 45, 3) := by decide +kernel
theorem dX3_perforateFrom_77 : decode cX3_perforateFrom 77 = .ok (.iadd, 1) := by decide +kernel
theorem dX3_perforateFrom_78 : decode cX3_perforateFrom 78 = .ok (.putfield 34, 3) := by decide +kernel
theorem dX3_perforateFrom_81 : decode cX3_perforateFrom 81 = .ok (.iinc 5 1, 3) := by decide +kernel
theorem dX3_perforateFrom_84 : decode cX3_perforateFrom 84 = .ok (.goto (-55), 3) := by decide +kernel
theorem dX3_perforateFrom_87 : decode cX3_perforateFrom 87 = .ok (.return_, 1) := by decide +kernel
set_option maxRecDepth 20000 in
theorem ggX3_answer_X0_brokenPins : GoodIn wsX3_answer wsX0_brokenPins := goodIn_r _ [8, 9, 10, 11, 12, 13, 14, 15, 16, 21, 22, 23, 24, 25, 26, 27, 28, 29] (by decide +kernel) (by decide +kernel)
set_option maxRecDepth 20000 in
theorem gX3_answer_X0_brokenPins : GoodIn wsX3_answer (wsV RX3 48 RX0 yX0_brokenPins wsX0_brokenPins) := goodIn_app (goodIn_of _ (by decide +kernel)) ggX3_answer_X0_brokenPins
theorem dX3_answer_0 : decode cX3_answer 0 = .ok (.iload_n 1, 1) := by decide +kernel
