theorem dX3_form_53 : decode cX3_form 53 = .ok (.getfield 94, 3) := by decide +kernel
theorem dX3_form_56 : decode cX3_form 56 = .ok (.aload_n 0, 1) := by decide +kernel
theorem dX3_form_57 : decode cX3_form 57 = .ok (.getfield 29, 3) := by decide +kernel
theorem dX3_form_60 : decode cX3_form 60 = .ok (.invokestatic 146, 3) := by decide +kernel
theorem dX3_form_63 : decode cX3_form 63 = .ok (.ireturn, 1) := by decide +kernel
theorem dX3_form_64 : decode cX3_form 64 = .ok (.aload_n 0, 1) := by decide +kernel
theorem dX3_form_65 : decode cX3_form 65 = .ok (.aload_n 0, 1) := by decide +kernel
theorem dX3_form_66 : decode cX3_form 66 = .ok (.getfield 7, 3) := by decide +kernel
theorem dX3_form_69 : decode cX3_form 69 = .ok (.aload_n 0, 1) := by decide +kernel
theorem dX3_form_70 : decode cX3_form 70 = .ok (.getfield 129, 3) := by decide +kernel
theorem dX3_form_73 : decode cX3_form 73 = .ok (.aload_n 0, 1) := by decide +kernel
theorem dX3_form_74 : decode cX3_form 74 = .ok (.getfield 13, 3) := by decide +kernel
theorem dX3_form_77 : decode cX3_form 77 = .ok (.invokevirtual 97, 3) := by decide +kernel
theorem dX3_form_80 : decode cX3_form 80 = .ok (.iload_n 1, 1) := by decide +kernel
theorem dX3_form_81 : decode cX3_form 81 = .ok (.iconst 1, 1) := by decide +kernel
theorem dX3_form_82 : decode cX3_form 82 = .ok (.if_icmp .ne 15, 3) := by decide +kernel
theorem dX3_form_85 : decode cX3_form 85 = .ok (.aload_n 0, 1) := by decide +kernel
theorem dX3_form_86 : decode cX3_form 86 = .ok (.aload_n 0, 1) := by decide +kernel
theorem dX3_form_87 : decode cX3_form 87 = .ok (.getfield 18, 3) := by decide +kernel
theorem dX3_form_90 : decode cX3_form 90 = .ok (.aload_n 0, 1) := by decide +kernel
theorem dX3_form_91 : decode cX3_form 91 = .ok (.getfield 23, 3) := by decide +kernel
theorem dX3_form_94 : decode cX3_form 94 = .ok (.invokevirtual 132, 3) := by decide +kernel
theorem dX3_form_97 : decode cX3_form 97 = .ok (.iload_n 2, 1) := by decide +kernel
theorem dX3_form_98 : decode cX3_form 98 = .ok (.aload_n 0, 1) := by decide +kernel
theorem dX3_form_99 : decode cX3_form 99 = .ok (.getfield 69, 3) := by decide +kernel
theorem dX3_form_102 : decode cX3_form 102 = .ok (.aload_n 0, 1) := by decide +kernel
theorem dX3_form_103 : decode cX3_form 103 = .ok (.getfield 72, 3) := by decide +kernel
theorem dX3_form_106 : decode cX3_form 106 = .ok (.aload_n 0, 1) := by decide +kernel
theorem dX3_form_107 : decode cX3_form 107 = .ok (.getfield 75, 3) := by decide +kernel
theorem dX3_form_110 : decode cX3_form 110 = .ok (.invokestatic 146, 3) := by decide +kernel
theorem dX3_form_113 : decode cX3_form 113 = .ok (.ireturn, 1) := by decide +kernel
set_option maxRecDepth 20000 in
theorem ggX3_common_X3_size : GoodIn wsX3_common wsX3_size := goodIn_r _ [4] (by decide +kernel) (by decide +kernel)
set_option maxRecDepth 20000 in
theorem gX3_common_X3_size : GoodIn wsX3_common (va_wsS RX3 78 yX3_size wsX3_size) := goodIn_app (goodIn_of _ (by decide +kernel)) ggX3_common_X3_size
set_option maxRecDepth 20000 in
theorem ggX3_common_X3_common : GoodIn wsX3_common wsX3_common := goodIn_r _ [0, 1, 2, 3, 4, 5, 6] (by decide +kernel) (by decide +kernel)
set_option maxRecDepth 20000 in
theorem gX3_common_X3_common : GoodIn wsX3_common (va_wsS RX3 150 yX3_common wsX3_common) := goodIn_app (goodIn_of _ (by decide +kernel)) ggX3_common_X3_common
theorem dX3_common_0 : decode cX3_common 0 = .ok (.lload_n 2, 1) := by decide +kernel
theorem dX3_common_1 : decode cX3_common 1 = .ok (.lconst 0, 1) := by decide +kernel
theorem dX3_common_2 : decode cX3_common 2 = .ok (.lcmp, 1) := by decide +kernel
theorem dX3_common_3 : decode cX3_common 3 = .ok (.ifCond .ne 10, 3) := by decide +kernel
theorem dX3_common_6 : decode cX3_common 6 = .ok (.lload_n 0, 1) := by decide +kernel
theorem dX3_common_7 : decode cX3_common 7 = .ok (.invokestatic 78, 3) := by decide +kernel
theorem dX3_common_10 : decode cX3_common 10 = .ok (.goto 10, 3) := by decide +kernel
theorem dX3_common_13 : decode cX3_common 13 = .ok (.lload_n 2, 1) := by decide +kernel
theorem dX3_common_14 : decode cX3_common 14 = .ok (.lload_n 0, 1) := by decide +kernel
theorem dX3_common_15 : decode cX3_common 15 = .ok (.lload_n 2, 1) := by decide +kernel
theorem dX3_common_16 : decode cX3_common 16 = .ok (.lrem, 1) := by decide +kernel
theorem dX3_common_17 : decode cX3_common 17 = .ok (.invokestatic 150, 3) := by decide +kernel
theorem dX3_common_20 : decode cX3_common 20 = .ok (.lreturn, 1) := by decide +kernel
set_option maxRecDepth 20000 in
theorem ggX3_stepsToReduced_X3_begin : GoodIn wsX3_stepsToReduced wsX3_begin := goodIn_r _ [10, 11, 12, 13, 28, 29, 30, 31, 32, 33, 34, 35, 36, 37, 38, 39, 40, 41, 42] (by decide +kernel) (by decide +kernel)
set_option maxRecDepth 20000 in
theorem gX3_stepsToReduced_X3_begin : GoodIn wsX3_stepsToReduced (wsV RX3 97 RX3 yX3_begin wsX3_begin) := goodIn_app (goodIn_of _ (by decide +kernel)) ggX3_stepsToReduced_X3_begin
set_option maxRecDepth 20000 in
theorem ggX3_stepsToReduced_X3_isReduced : GoodIn wsX3_stepsToReduced wsX3_isReduced := goodIn_r _ [17, 12, 11, 13, 18, 19, 20, 9, 21, 28, 29, 30, 31, 32, 33, 34, 35, 36, 37, 38, 39, 40, 41, 42] (by decide +kernel) (by decide +kernel)
set_option maxRecDepth 20000 in
theorem gX3_stepsToReduced_X3_isReduced : GoodIn wsX3_stepsToReduced (wsV RX3 86 RX3 yX3_isReduced wsX3_isReduced) := goodIn_app (goodIn_of _ (by decide +kernel)) ggX3_stepsToReduced_X3_isReduced
set_option maxRecDepth 20000 in
theorem ggX3_stepsToReduced_X3_step : GoodIn wsX3_stepsToReduced wsX3_step := goodIn_r _ [25, 18, 13, 12, 26, 27, 11, 19, 20, 9, 21, 28, 29, 30, 31, 32, 33, 34, 35, 36, 37, 38, 39, 40, 41, 42] (by decide +kernel) (by decide +kernel)
set_option maxRecDepth 20000 in
theorem gX3_stepsToReduced_X3_step : GoodIn wsX3_stepsToReduced (wsV RX3 90 RX3 yX3_step wsX3_step) := goodIn_app (goodIn_of _ (by decide +kernel)) ggX3_stepsToReduced_X3_step
theorem dX3_stepsToReduced_0 : decode cX3_stepsToReduced 0 = .ok (.iconst 0, 1) := by decide +kernel
theorem dX3_stepsToReduced_1 : decode cX3_stepsToReduced 1 = .ok (.istore_n 1, 1) := by decide +kernel
theorem dX3_stepsToReduced_2 : decode cX3_stepsToReduced 2 = .ok (.aload_n 0, 1) := by decide +kernel
theorem dX3_stepsToReduced_3 : decode cX3_stepsToReduced 3 = .ok (.aload_n 0, 1) := by decide +kernel
theorem dX3_stepsToReduced_4 : decode cX3_stepsToReduced 4 = .ok (.getfield 7, 3) := by decide +kernel
theorem dX3_stepsToReduced_7 : decode cX3_stepsToReduced 7 = .ok (.aload_n 0, 1) := by decide +kernel
theorem dX3_stepsToReduced_8 : decode cX3_stepsToReduced 8 = .ok (.getfield 129, 3) := by decide +kernel
theorem dX3_stepsToReduced_11 : decode cX3_stepsToReduced 11 = .ok (.aload_n 0, 1) := by decide +kernel
theorem dX3_stepsToReduced_12 : decode cX3_stepsToReduced 12 = .ok (.getfield 13, 3) := by decide +kernel
theorem dX3_stepsToReduced_15 : decode cX3_stepsToReduced 15 = .ok (.invokevirtual 97, 3) := by decide +kernel
theorem dX3_stepsToReduced_18 : decode cX3_stepsToReduced 18 = .ok (.aload_n 0, 1) := by decide +kernel
theorem dX3_stepsToReduced_19 : decode cX3_stepsToReduced 19 = .ok (.aload_n 0, 1) := by decide +kernel
theorem dX3_stepsToReduced_20 : decode cX3_stepsToReduced 20 = .ok (.getfield 18, 3) := by decide +kernel
theorem dX3_stepsToReduced_23 : decode cX3_stepsToReduced 23 = .ok (.aload_n 0, 1) := by decide +kernel
theorem dX3_stepsToReduced_24 : decode cX3_stepsToReduced 24 = .ok (.getfield 23, 3) := by decide +kernel
theorem dX3_stepsToReduced_27 : decode cX3_stepsToReduced 27 = .ok (.invokevirtual 86, 3) := by decide +kernel
theorem dX3_stepsToReduced_30 : decode cX3_stepsToReduced 30 = .ok (.ifCond .ne 21, 3) := by decide +kernel
theorem dX3_stepsToReduced_33 : decode cX3_stepsToReduced 33 = .ok (.aload_n 0, 1) := by decide +kernel
theorem dX3_stepsToReduced_34 : decode cX3_stepsToReduced 34 = .ok (.aload_n 0, 1) := by decide +kernel
theorem dX3_stepsToReduced_35 : decode cX3_stepsToReduced 35 = .ok (.getfield 18, 3) := by decide +kernel
theorem dX3_stepsToReduced_38 : decode cX3_stepsToReduced 38 = .ok (.aload_n 0, 1) := by decide +kernel
theorem dX3_stepsToReduced_39 : decode cX3_stepsToReduced 39 = .ok (.getfield 23, 3) := by decide +kernel
theorem dX3_stepsToReduced_42 : decode cX3_stepsToReduced 42 = .ok (.invokevirtual 90, 3) := by decide +kernel
theorem dX3_stepsToReduced_45 : decode cX3_stepsToReduced 45 = .ok (.iinc 1 1, 3) := by decide +kernel
theorem dX3_stepsToReduced_48 : decode cX3_stepsToReduced 48 = .ok (.goto (-30), 3) := by decide +kernel
theorem dX3_stepsToReduced_51 : decode cX3_stepsToReduced 51 = .ok (.iload_n 1, 1) := by decide +kernel
theorem dX3_stepsToReduced_52 : decode cX3_stepsToReduced 52 = .ok (.ireturn, 1) := by decide +kernel
set_option maxRecDepth 20000 in
theorem ggX3_ringSize_X3_begin : GoodIn wsX3_ringSize wsX3_begin := goodIn_r _ [10, 11, 12, 13, 28, 29, 30, 31, 32, 33, 34, 35, 36, 37, 38, 39, 40, 41, 42] (by decide +kernel) (by decide +kernel)
set_option maxRecDepth 20000 in
theorem gX3_ringSize_X3_begin : GoodIn wsX3_ringSize (wsV RX3 97 RX3 yX3_begin wsX3_begin) := goodIn_app (goodIn_of _ (by decide +kernel)) ggX3_ringSize_X3_begin
set_option maxRecDepth 20000 in
theorem ggX3_ringSize_X3_step : GoodIn wsX3_ringSize wsX3_step := goodIn_r _ [17, 18, 13, 12, 19, 20, 11, 21, 22, 9, 23, 28, 29, 30, 31, 32, 33, 34, 35, 36, 37, 38, 39, 40, 41, 42] (by decide +kernel) (by decide +kernel)
set_option maxRecDepth 20000 in
theorem gX3_ringSize_X3_step : GoodIn wsX3_ringSize (wsV RX3 90 RX3 yX3_step wsX3_step) := goodIn_app (goodIn_of _ (by decide +kernel)) ggX3_ringSize_X3_step
set_option maxRecDepth 20000 in
theorem ggX3_ringSize_X3_isName : GoodIn wsX3_ringSize wsX3_isName := goodIn_r _ [27, 11, 2, 12, 3, 28, 29, 30, 31, 32, 33, 34, 35, 36, 37, 38, 39, 40, 41, 42] (by decide +kernel) (by decide +kernel)
set_option maxRecDepth 20000 in
theorem gX3_ringSize_X3_isName : GoodIn wsX3_ringSize (wsV RX3 138 RX3 yX3_isName wsX3_isName) := goodIn_app (goodIn_of _ (by decide +kernel)) ggX3_ringSize_X3_isName
theorem dX3_ringSize_0 : decode cX3_ringSize 0 = .ok (.aload_n 0, 1) := by decide +kernel
theorem dX3_ringSize_1 : decode cX3_ringSize 1 = .ok (.getfield 18, 3) := by decide +kernel
theorem dX3_ringSize_4 : decode cX3_ringSize 4 = .ok (.lconst 0, 1) := by decide +kernel
theorem dX3_ringSize_5 : decode cX3_ringSize 5 = .ok (.lcmp, 1) := by decide +kernel
theorem dX3_ringSize_6 : decode cX3_ringSize 6 = .ok (.ifCond .ge 5, 3) := by decide +kernel
theorem dX3_ringSize_9 : decode cX3_ringSize 9 = .ok (.iconst 1, 1) := by decide +kernel
theorem dX3_ringSize_10 : decode cX3_ringSize 10 = .ok (.ireturn, 1) := by decide +kernel
theorem dX3_ringSize_11 : decode cX3_ringSize 11 = .ok (.aload_n 0, 1) := by decide +kernel
theorem dX3_ringSize_12 : decode cX3_ringSize 12 = .ok (.aload_n 0, 1) := by decide +kernel
theorem dX3_ringSize_13 : decode cX3_ringSize 13 = .ok (.getfield 26, 3) := by decide +kernel
theorem dX3_ringSize_16 : decode cX3_ringSize 16 = .ok (.aload_n 0, 1) := by decide +kernel
theorem dX3_ringSize_17 : decode cX3_ringSize 17 = .ok (.getfield 94, 3) := by decide +kernel
theorem dX3_ringSize_20 : decode cX3_ringSize 20 = .ok (.aload_n 0, 1) := by decide +kernel
theorem dX3_ringSize_21 : decode cX3_ringSize 21 = .ok (.getfield 29, 3) := by decide +kernel
theorem dX3_ringSize_24 : decode cX3_ringSize 24 = .ok (.invokevirtual 97, 3) := by decide +kernel
theorem dX3_ringSize_27 : decode cX3_ringSize 27 = .ok (.aload_n 0, 1) := by decide +kernel
theorem dX3_ringSize_28 : decode cX3_ringSize 28 = .ok (.aload_n 0, 1) := by decide +kernel
theorem dX3_ringSize_29 : decode cX3_ringSize 29 = .ok (.getfield 18, 3) := by decide +kernel
theorem dX3_ringSize_32 : decode cX3_ringSize 32 = .ok (.aload_n 0, 1) := by decide +kernel
theorem dX3_ringSize_33 : decode cX3_ringSize 33 = .ok (.getfield 23, 3) := by decide +kernel
theorem dX3_ringSize_36 : decode cX3_ringSize 36 = .ok (.invokevirtual 90, 3) := by decide +kernel
theorem dX3_ringSize_39 : decode cX3_ringSize 39 = .ok (.iconst 1, 1) := by decide +kernel
theorem dX3_ringSize_40 : decode cX3_ringSize 40 = .ok (.istore_n 1, 1) := by decide +kernel
theorem dX3_ringSize_41 : decode cX3_ringSize 41 = .ok (.aload_n 0, 1) := by decide +kernel
theorem dX3_ringSize_42 : decode cX3_ringSize 42 = .ok (.invokevirtual 138, 3) := by decide +kernel
theorem dX3_ringSize_45 : decode cX3_ringSize 45 = .ok (.ifCond .ne 21, 3) := by decide +kernel
theorem dX3_ringSize_48 : decode cX3_ringSize 48 = .ok (.aload_n 0, 1) := by decide +kernel
theorem dX3_ringSize_49 : decode cX3_ringSize 49 = .ok (.aload_n 0, 1) := by decide +kernel
theorem dX3_ringSize_50 : decode cX3_ringSize 50 = .ok (.getfield 18, 3) := by decide +kernel
theorem dX3_ringSize_53 : decode cX3_ringSize 53 = .ok (.aload_n 0, 1) := by decide +kernel
theorem dX3_ringSize_54 : decode cX3_ringSize 54 = .ok (.getfield 23, 3) := by decide +kernel
theorem dX3_ringSize_57 : decode cX3_ringSize 57 = .ok (.invokevirtual 90, 3) := by decide +kernel
theorem dX3_ringSize_60 : decode cX3_ringSize 60 = .ok (.iinc 1 1, 3) := by decide +kernel
theorem dX3_ringSize_63 : decode cX3_ringSize 63 = .ok (.goto (-22), 3) := by decide +kernel
theorem dX3_ringSize_66 : decode cX3_ringSize 66 = .ok (.iload_n 1, 1) := by decide +kernel
theorem dX3_ringSize_67 : decode cX3_ringSize 67 = .ok (.ireturn, 1) := by decide +kernel
set_option maxRecDepth 20000 in
theorem ggX3_stepsToName_X3_stepsToReduced : GoodIn wsX3_stepsToName wsX3_stepsToReduced := goodIn_r _ [7, 8, 9, 10, 1, 2, 11, 12, 13, 6, 14, 15, 16, 17, 18, 19, 20, 21, 22, 23, 24, 25, 26, 27, 28, 29, 30, 31, 38, 39, 40, 41, 42, 43, 44, 45, 46, 47, 48, 49, 50, 51, 52] (by decide +kernel) (by decide +kernel)
set_option maxRecDepth 20000 in
theorem gX3_stepsToName_X3_stepsToReduced : GoodIn wsX3_stepsToName (wsV RX3 154 RX3 yX3_stepsToReduced wsX3_stepsToReduced) := goodIn_app (goodIn_of _ (by decide +kernel)) ggX3_stepsToName_X3_stepsToReduced
set_option maxRecDepth 20000 in
theorem ggX3_stepsToName_X3_isName : GoodIn wsX3_stepsToName wsX3_isName := goodIn_r _ [35, 15, 36, 16, 37, 38, 39, 40, 41, 42, 43, 44, 45, 46, 47, 48, 49, 50, 51, 52] (by decide +kernel) (by decide +kernel)
set_option maxRecDepth 20000 in
theorem gX3_stepsToName_X3_isName : GoodIn wsX3_stepsToName (wsV RX3 138 RX3 yX3_isName wsX3_isName) := goodIn_app (goodIn_of _ (by decide +kernel)) ggX3_stepsToName_X3_isName
set_option maxRecDepth 20000 in
theorem ggX3_stepsToName_X3_step : GoodIn wsX3_stepsToName wsX3_step := goodIn_r _ [29, 22, 17, 16, 30, 31, 15, 23, 24, 6, 25, 38, 39, 40, 41, 42, 43, 44, 45, 46, 47, 48, 49, 50, 51, 52] (by decide +kernel) (by decide +kernel)
set_option maxRecDepth 20000 in
theorem gX3_stepsToName_X3_step : GoodIn wsX3_stepsToName (wsV RX3 90 RX3 yX3_step wsX3_step) := goodIn_app (goodIn_of _ (by decide +kernel)) ggX3_stepsToName_X3_step
theorem dX3_stepsToName_0 : decode cX3_stepsToName 0 = .ok (.aload_n 0, 1) := by decide +kernel
theorem dX3_stepsToName_1 : decode cX3_stepsToName 1 = .ok (.invokevirtual 154, 3) := by decide +kernel
theorem dX3_stepsToName_4 : decode cX3_stepsToName 4 = .ok (.istore_n 1, 1) := by decide +kernel
theorem dX3_stepsToName_5 : decode cX3_stepsToName 5 = .ok (.aload_n 0, 1) := by decide +kernel
theorem dX3_stepsToName_6 : decode cX3_stepsToName 6 = .ok (.invokevirtual 138, 3) := by decide +kernel
theorem dX3_stepsToName_9 : decode cX3_stepsToName 9 = .ok (.ifCond .ne 21, 3) := by decide +kernel
theorem dX3_stepsToName_12 : decode cX3_stepsToName 12 = .ok (.aload_n 0, 1) := by decide +kernel
theorem dX3_stepsToName_13 : decode cX3_stepsToName 13 = .ok (.aload_n 0, 1) := by decide +kernel
theorem dX3_stepsToName_14 : decode cX3_stepsToName 14 = .ok (.getfield 18, 3) := by decide +kernel
theorem dX3_stepsToName_17 : decode cX3_stepsToName 17 = .ok (.aload_n 0, 1) := by decide +kernel
theorem dX3_stepsToName_18 : decode cX3_stepsToName 18 = .ok (.getfield 23, 3) := by decide +kernel
theorem dX3_stepsToName_21 : decode cX3_stepsToName 21 = .ok (.invokevirtual 90, 3) := by decide +kernel
theorem dX3_stepsToName_24 : decode cX3_stepsToName 24 = .ok (.iinc 1 1, 3) := by decide +kernel
theorem dX3_stepsToName_27 : decode cX3_stepsToName 27 = .ok (.goto (-22), 3) := by decide +kernel
theorem dX3_stepsToName_30 : decode cX3_stepsToName 30 = .ok (.iload_n 1, 1) := by decide +kernel
theorem dX3_stepsToName_31 : decode cX3_stepsToName 31 = .ok (.ireturn, 1) := by decide +kernel
set_option maxRecDepth 20000 in
theorem ggX3_count_X3_common : GoodIn wsX3_count wsX3_common := goodIn_r _ [10, 11, 12, 9, 13, 7, 8] (by decide +kernel) (by decide +kernel)
set_option maxRecDepth 20000 in
theorem gX3_count_X3_common : GoodIn wsX3_count (va_wsS RX3 150 yX3_common wsX3_common) := goodIn_app (goodIn_of _ (by decide +kernel)) ggX3_count_X3_common
set_option maxRecDepth 20000 in
theorem ggX3_count_X3_stepsToReduced : GoodIn wsX3_count wsX3_stepsToReduced := goodIn_r _ [17, 4, 5, 6, 2, 3, 18, 19, 20, 9, 21, 22, 23, 24, 25, 26, 27, 28, 29, 11, 12, 13, 30, 31, 32, 33, 34, 35, 51, 52, 53, 54, 55, 56, 57, 58, 59, 60, 61, 62, 63, 64, 65] (by decide +kernel) (by decide +kernel)
set_option maxRecDepth 20000 in
theorem gX3_count_X3_stepsToReduced : GoodIn wsX3_count (wsV RX3 154 RX3 yX3_stepsToReduced wsX3_stepsToReduced) := goodIn_app (goodIn_of _ (by decide +kernel)) ggX3_count_X3_stepsToReduced
set_option maxRecDepth 20000 in
theorem ggX3_count_X3_stepsToName : GoodIn wsX3_count wsX3_stepsToName := goodIn_r _ [39, 2, 3, 14, 15, 16, 9, 17, 4, 5, 6, 18, 19, 20, 21, 22, 23, 24, 25, 26, 27, 28, 29, 11, 12, 13, 30, 31, 32, 33, 34, 35, 40, 41, 42, 43, 44, 45, 51, 52, 53, 54, 55, 56, 57, 58, 59, 60, 61, 62, 63, 64, 65] (by decide +kernel) (by decide +kernel)
set_option maxRecDepth 20000 in
theorem gX3_count_X3_stepsToName : GoodIn wsX3_count (wsV RX3 158 RX3 yX3_stepsToName wsX3_stepsToName) := goodIn_app (goodIn_of _ (by decide +kernel)) ggX3_count_X3_stepsToName
set_option maxRecDepth 20000 in
theorem ggX3_count_X3_ringSize : GoodIn wsX3_count wsX3_ringSize := goodIn_r _ [49, 2, 44, 45, 50, 3, 18, 19, 20, 9, 21, 22, 23, 24, 30, 31, 32, 33, 29, 34, 35, 11, 12, 13, 40, 41, 42, 43, 51, 52, 53, 54, 55, 56, 57, 58, 59, 60, 61, 62, 63, 64, 65] (by decide +kernel) (by decide +kernel)
set_option maxRecDepth 20000 in
theorem gX3_count_X3_ringSize : GoodIn wsX3_count (wsV RX3 161 RX3 yX3_ringSize wsX3_ringSize) := goodIn_app (goodIn_of _ (by decide +kernel)) ggX3_count_X3_ringSize
theorem dX3_count_0 : decode cX3_count 0 = .ok (.aload_n 0, 1) := by decide +kernel
theorem dX3_count_1 : decode cX3_count 1 = .ok (.iconst 0, 1) := by decide +kernel
theorem dX3_count_2 : decode cX3_count 2 = .ok (.putfield 44, 3) := by decide +kernel
theorem dX3_count_5 : decode cX3_count 5 = .ok (.iload_n 1, 1) := by decide +kernel
theorem dX3_count_6 : decode cX3_count 6 = .ok (.tableswitch 85 0 5 #[38, 44, 50, 70, 75, 80], 38) := by decide +kernel
theorem dX3_count_44 : decode cX3_count 44 = .ok (.aload_n 0, 1) := by decide +kernel
theorem dX3_count_45 : decode cX3_count 45 = .ok (.getfield 18, 3) := by decide +kernel
theorem dX3_count_48 : decode cX3_count 48 = .ok (.l2i, 1) := by decide +kernel
theorem dX3_count_49 : decode cX3_count 49 = .ok (.ireturn, 1) := by decide +kernel
theorem dX3_count_50 : decode cX3_count 50 = .ok (.aload_n 0, 1) := by decide +kernel
theorem dX3_count_51 : decode cX3_count 51 = .ok (.getfield 23, 3) := by decide +kernel
theorem dX3_count_54 : decode cX3_count 54 = .ok (.l2i, 1) := by decide +kernel
theorem dX3_count_55 : decode cX3_count 55 = .ok (.ireturn, 1) := by decide +kernel
theorem dX3_count_56 : decode cX3_count 56 = .ok (.aload_n 0, 1) := by decide +kernel
theorem dX3_count_57 : decode cX3_count 57 = .ok (.getfield 7, 3) := by decide +kernel
theorem dX3_count_60 : decode cX3_count 60 = .ok (.aload_n 0, 1) := by decide +kernel
theorem dX3_count_61 : decode cX3_count 61 = .ok (.getfield 129, 3) := by decide +kernel
theorem dX3_count_64 : decode cX3_count 64 = .ok (.invokestatic 150, 3) := by decide +kernel
theorem dX3_count_67 : decode cX3_count 67 = .ok (.aload_n 0, 1) := by decide +kernel
theorem dX3_count_68 : decode cX3_count 68 = .ok (.getfield 13, 3) := by decide +kernel
theorem dX3_count_71 : decode cX3_count 71 = .ok (.invokestatic 150, 3) := by decide +kernel
theorem dX3_count_74 : decode cX3_count 74 = .ok (.l2i, 1) := by decide +kernel
theorem dX3_count_75 : decode cX3_count 75 = .ok (.ireturn, 1) := by decide +kernel
theorem dX3_count_76 : decode cX3_count 76 = .ok (.aload_n 0, 1) := by decide +kernel
theorem dX3_count_77 : decode cX3_count 77 = .ok (.invokevirtual 154, 3) := by decide +kernel
theorem dX3_count_80 : decode cX3_count 80 = .ok (.ireturn, 1) := by decide +kernel
theorem dX3_count_81 : decode cX3_count 81 = .ok (.aload_n 0, 1) := by decide +kernel
theorem dX3_count_82 : decode cX3_count 82 = .ok (.invokevirtual 158, 3) := by decide +kernel
theorem dX3_count_85 : decode cX3_count 85 = .ok (.ireturn, 1) := by decide +kernel
theorem dX3_count_86 : decode cX3_count 86 = .ok (.aload_n 0, 1) := by decide +kernel
theorem dX3_count_87 : decode cX3_count 87 = .ok (.invokevirtual 161, 3) := by decide +kernel
theorem dX3_count_90 : decode cX3_count 90 = .ok (.ireturn, 1) := by decide +kernel
theorem dX3_count_91 : decode cX3_count 91 = .ok (.iconst (-1), 1) := by decide +kernel
theorem dX3_count_92 : decode cX3_count 92 = .ok (.ireturn, 1) := by decide +kernel
set_option maxRecDepth 20000 in
theorem ggX3_ring_X3_ringSize : GoodIn wsX3_ring wsX3_ringSize := goodIn_r _ [15, 6, 3, 4, 5, 7, 16, 17, 18, 14, 19, 8, 9, 10, 20, 21, 22, 23, 1, 24, 25, 26, 27, 28, 29, 30, 31, 32, 39, 40, 41, 42, 43, 44, 45, 46, 47, 48, 49, 50, 51, 52, 53] (by decide +kernel) (by decide +kernel)
set_option maxRecDepth 20000 in
theorem gX3_ring_X3_ringSize : GoodIn wsX3_ring (wsV RX3 161 RX3 yX3_ringSize wsX3_ringSize) := goodIn_app (goodIn_of _ (by decide +kernel)) ggX3_ring_X3_ringSize
set_option maxRecDepth 20000 in
theorem ggX3_ring_X3_in : GoodIn wsX3_ring wsX3_in := goodIn_r _ [35] (by decide +kernel) (by decide +kernel)
set_option maxRecDepth 20000 in
theorem gX3_ring_X3_in : GoodIn wsX3_ring (va_wsS RX3 53 yX3_in wsX3_in) := goodIn_app (goodIn_of _ (by decide +kernel)) ggX3_ring_X3_in
set_option maxRecDepth 20000 in
theorem ggX3_ring_X3_begin : GoodIn wsX3_ring wsX3_begin := goodIn_r _ [19, 8, 9, 10, 39, 40, 41, 42, 43, 44, 45, 46, 47, 48, 49, 50, 51, 52, 53] (by decide +kernel) (by decide +kernel)
set_option maxRecDepth 20000 in
theorem gX3_ring_X3_begin : GoodIn wsX3_ring (wsV RX3 97 RX3 yX3_begin wsX3_begin) := goodIn_app (goodIn_of _ (by decide +kernel)) ggX3_ring_X3_begin
set_option maxRecDepth 20000 in
theorem ggX3_ring_X3_step : GoodIn wsX3_ring wsX3_step := goodIn_r _ [23, 1, 10, 9, 24, 25, 8, 26, 27, 14, 28, 39, 40, 41, 42, 43, 44, 45, 46, 47, 48, 49, 50, 51, 52, 53] (by decide +kernel) (by decide +kernel)
set_option maxRecDepth 20000 in
theorem gX3_ring_X3_step : GoodIn wsX3_ring (wsV RX3 90 RX3 yX3_step wsX3_step) := goodIn_app (goodIn_of _ (by decide +kernel)) ggX3_ring_X3_step
set_option maxRecDepth 20000 in
theorem ggX3_ring_X3_part : GoodIn wsX3_ring wsX3_part := goodIn_r _ [38] (by decide +kernel) (by decide +kernel)
set_option maxRecDepth 20000 in
theorem gX3_ring_X3_part : GoodIn wsX3_ring (va_wsS RX3 146 yX3_part wsX3_part) := goodIn_app (goodIn_of _ (by decide +kernel)) ggX3_ring_X3_part
theorem dX3_ring_0 : decode cX3_ring 0 = .ok (.aload_n 0, 1) := by decide +kernel
theorem dX3_ring_1 : decode cX3_ring 1 = .ok (.iload_n 1, 1) := by decide +kernel
theorem dX3_ring_2 : decode cX3_ring 2 = .ok (.i2l, 1) := by decide +kernel
theorem dX3_ring_3 : decode cX3_ring 3 = .ok (.lconst 0, 1) := by decide +kernel
theorem dX3_ring_4 : decode cX3_ring 4 = .ok (.aload_n 0, 1) := by decide +kernel
theorem dX3_ring_5 : decode cX3_ring 5 = .ok (.invokevirtual 161, 3) := by decide +kernel
theorem dX3_ring_8 : decode cX3_ring 8 = .ok (.iconst 1, 1) := by decide +kernel
theorem dX3_ring_9 : decode cX3_ring 9 = .ok (.isub, 1) := by decide +kernel
theorem dX3_ring_10 : decode cX3_ring 10 = .ok (.i2l, 1) := by decide +kernel
theorem dX3_ring_11 : decode cX3_ring 11 = .ok (.invokestatic 53, 3) := by decide +kernel
theorem dX3_ring_14 : decode cX3_ring 14 = .ok (.ifCond .eq 19, 3) := by decide +kernel
theorem dX3_ring_17 : decode cX3_ring 17 = .ok (.iload_n 2, 1) := by decide +kernel
theorem dX3_ring_18 : decode cX3_ring 18 = .ok (.i2l, 1) := by decide +kernel
theorem dX3_ring_19 : decode cX3_ring 19 = .ok (.lconst 0, 1) := by decide +kernel
theorem dX3_ring_20 : decode cX3_ring 20 = .ok (.ldc2_w 81, 3) := by decide +kernel
theorem dX3_ring_23 : decode cX3_ring 23 = .ok (.invokestatic 53, 3) := by decide +kernel
theorem dX3_ring_26 : decode cX3_ring 26 = .ok (.ifCond .eq 7, 3) := by decide +kernel
theorem dX3_ring_29 : decode cX3_ring 29 = .ok (.iconst 0, 1) := by decide +kernel
theorem dX3_ring_30 : decode cX3_ring 30 = .ok (.goto 4, 3) := by decide +kernel
theorem dX3_ring_33 : decode cX3_ring 33 = .ok (.iconst 1, 1) := by decide +kernel
theorem dX3_ring_34 : decode cX3_ring 34 = .ok (.putfield 44, 3) := by decide +kernel
theorem dX3_ring_37 : decode cX3_ring 37 = .ok (.aload_n 0, 1) := by decide +kernel
theorem dX3_ring_38 : decode cX3_ring 38 = .ok (.getfield 44, 3) := by decide +kernel
theorem dX3_ring_41 : decode cX3_ring 41 = .ok (.ifCond .le 5, 3) := by decide +kernel
theorem dX3_ring_44 : decode cX3_ring 44 = .ok (.iconst 0, 1) := by decide +kernel
theorem dX3_ring_45 : decode cX3_ring 45 = .ok (.ireturn, 1) := by decide +kernel
theorem dX3_ring_46 : decode cX3_ring 46 = .ok (.aload_n 0, 1) := by decide +kernel
theorem dX3_ring_47 : decode cX3_ring 47 = .ok (.aload_n 0, 1) := by decide +kernel
theorem dX3_ring_48 : decode cX3_ring 48 = .ok (.getfield 26, 3) := by decide +kernel
theorem dX3_ring_51 : decode cX3_ring 51 = .ok (.aload_n 0, 1) := by decide +kernel
theorem dX3_ring_52 : decode cX3_ring 52 = .ok (.getfield 94, 3) := by decide +kernel
theorem dX3_ring_55 : decode cX3_ring 55 = .ok (.aload_n 0, 1) := by decide +kernel
theorem dX3_ring_56 : decode cX3_ring 56 = .ok (.getfield 29, 3) := by decide +kernel
theorem dX3_ring_59 : decode cX3_ring 59 = .ok (.invokevirtual 97, 3) := by decide +kernel
theorem dX3_ring_62 : decode cX3_ring 62 = .ok (.iconst 0, 1) := by decide +kernel
theorem dX3_ring_63 : decode cX3_ring 63 = .ok (.istore_n 3, 1) := by decide +kernel
theorem dX3_ring_64 : decode cX3_ring 64 = .ok (.iload_n 3, 1) := by decide +kernel
theorem dX3_ring_65 : decode cX3_ring 65 = .ok (.iload_n 1, 1) := by decide +kernel
theorem dX3_ring_66 : decode cX3_ring 66 = .ok (.if_icmp .ge 21, 3) := by decide +kernel
theorem dX3_ring_69 : decode cX3_ring 69 = .ok (.aload_n 0, 1) := by decide +kernel
theorem dX3_ring_70 : decode cX3_ring 70 = .ok (.aload_n 0, 1) := by decide +kernel
theorem dX3_ring_71 : decode cX3_ring 71 = .ok (.getfield 18, 3) := by decide +kernel
theorem dX3_ring_74 : decode cX3_ring 74 = .ok (.aload_n 0, 1) := by decide +kernel
theorem dX3_ring_75 : decode cX3_ring 75 = .ok (.getfield 23, 3) := by decide +kernel
theorem dX3_ring_78 : decode cX3_ring 78 = .ok (.invokevirtual 90, 3) := by decide +kernel
theorem dX3_ring_81 : decode cX3_ring 81 = .ok (.iinc 3 1, 3) := by decide +kernel
theorem dX3_ring_84 : decode cX3_ring 84 = .ok (.goto (-20), 3) := by decide +kernel
theorem dX3_ring_87 : decode cX3_ring 87 = .ok (.iload_n 2, 1) := by decide +kernel
theorem dX3_ring_88 : decode cX3_ring 88 = .ok (.aload_n 0, 1) := by decide +kernel
theorem dX3_ring_89 : decode cX3_ring 89 = .ok (.getfield 69, 3) := by decide +kernel
theorem dX3_ring_92 : decode cX3_ring 92 = .ok (.aload_n 0, 1) := by decide +kernel
theorem dX3_ring_93 : decode cX3_ring 93 = .ok (.getfield 72, 3) := by decide +kernel
theorem dX3_ring_96 : decode cX3_ring 96 = .ok (.aload_n 0, 1) := by decide +kernel
theorem dX3_ring_97 : decode cX3_ring 97 = .ok (.getfield 75, 3) := by decide +kernel
theorem dX3_ring_100 : decode cX3_ring 100 = .ok (.invokestatic 146, 3) := by decide +kernel
theorem dX3_ring_103 : decode cX3_ring 103 = .ok (.ireturn, 1) := by decide +kernel
set_option maxRecDepth 20000 in
theorem ggX3_together_X3_canBeTaken : GoodIn wsX3_together wsX3_canBeTaken := goodIn_r _ [7, 8, 9, 10, 11, 12, 13, 6, 14, 15, 16, 17, 18, 19, 20, 21] (by decide +kernel) (by decide +kernel)
set_option maxRecDepth 20000 in
theorem gX3_together_X3_canBeTaken : GoodIn wsX3_together (va_wsS RX3 126 yX3_canBeTaken wsX3_canBeTaken) := goodIn_app (goodIn_of _ (by decide +kernel)) ggX3_together_X3_canBeTaken
set_option maxRecDepth 20000 in
theorem ggX3_together_X3_discriminant : GoodIn wsX3_together wsX3_discriminant := goodIn_r _ [17, 18] (by decide +kernel) (by decide +kernel)
set_option maxRecDepth 20000 in
theorem gX3_together_X3_discriminant : GoodIn wsX3_together (va_wsS RX3 57 yX3_discriminant wsX3_discriminant) := goodIn_app (goodIn_of _ (by decide +kernel)) ggX3_together_X3_discriminant
set_option maxRecDepth 20000 in
theorem ggX3_together_X3_begin : GoodIn wsX3_together wsX3_begin := goodIn_r _ [25, 26, 27, 28, 56, 57, 58, 59, 60, 61, 62, 63, 64, 65, 66, 67, 68, 69, 70] (by decide +kernel) (by decide +kernel)
set_option maxRecDepth 20000 in
theorem gX3_together_X3_begin : GoodIn wsX3_together (wsV RX3 97 RX3 yX3_begin wsX3_begin) := goodIn_app (goodIn_of _ (by decide +kernel)) ggX3_together_X3_begin
set_option maxRecDepth 20000 in
theorem ggX3_together_X3_toReduced : GoodIn wsX3_together wsX3_toReduced := goodIn_r _ [32, 33, 34, 35, 6, 36, 27, 26, 28, 37, 38, 39, 40, 41, 42, 43, 44, 45, 18, 56, 57, 58, 59, 60, 61, 62, 63, 64, 65, 66, 67, 68, 69, 70] (by decide +kernel) (by decide +kernel)
set_option maxRecDepth 20000 in
theorem gX3_together_X3_toReduced : GoodIn wsX3_together (wsV RX3 132 RX3 yX3_toReduced wsX3_toReduced) := goodIn_app (goodIn_of _ (by decide +kernel)) ggX3_together_X3_toReduced
set_option maxRecDepth 20000 in
theorem ggX3_together_X3_toName : GoodIn wsX3_together wsX3_toName := goodIn_r _ [49, 26, 27, 28, 41, 42, 43, 6, 44, 37, 45, 18, 38, 39, 40, 22, 23, 24, 25, 56, 57, 58, 59, 60, 61, 62, 63, 64, 65, 66, 67, 68, 69, 70] (by decide +kernel) (by decide +kernel)
set_option maxRecDepth 20000 in
theorem gX3_together_X3_toName : GoodIn wsX3_together (wsV RX3 135 RX3 yX3_toName wsX3_toName) := goodIn_app (goodIn_of _ (by decide +kernel)) ggX3_together_X3_toName
set_option maxRecDepth 20000 in
theorem ggX3_together_X3_isName : GoodIn wsX3_together wsX3_isName := goodIn_r _ [53, 26, 54, 27, 55, 56, 57, 58, 59, 60, 61, 62, 63, 64, 65, 66, 67, 68, 69, 70] (by decide +kernel) (by decide +kernel)
set_option maxRecDepth 20000 in
theorem gX3_together_X3_isName : GoodIn wsX3_together (wsV RX3 138 RX3 yX3_isName wsX3_isName) := goodIn_app (goodIn_of _ (by decide +kernel)) ggX3_together_X3_isName
theorem dX3_together_0 : decode cX3_together 0 = .ok (.aload_n 0, 1) := by decide +kernel
theorem dX3_together_1 : decode cX3_together 1 = .ok (.iload_n 1, 1) := by decide +kernel
theorem dX3_together_2 : decode cX3_together 2 = .ok (.i2l, 1) := by decide +kernel
theorem dX3_together_3 : decode cX3_together 3 = .ok (.iload_n 2, 1) := by decide +kernel
theorem dX3_together_4 : decode cX3_together 4 = .ok (.i2l, 1) := by decide +kernel
theorem dX3_together_5 : decode cX3_together 5 = .ok (.iload_n 3, 1) := by decide +kernel
theorem dX3_together_6 : decode cX3_together 6 = .ok (.i2l, 1) := by decide +kernel
theorem dX3_together_7 : decode cX3_together 7 = .ok (.invokestatic 126, 3) := by decide +kernel
theorem dX3_together_10 : decode cX3_together 10 = .ok (.ifCond .eq 7, 3) := by decide +kernel
theorem dX3_together_13 : decode cX3_together 13 = .ok (.iconst 0, 1) := by decide +kernel
theorem dX3_together_14 : decode cX3_together 14 = .ok (.goto 4, 3) := by decide +kernel
theorem dX3_together_17 : decode cX3_together 17 = .ok (.iconst 1, 1) := by decide +kernel
theorem dX3_together_18 : decode cX3_together 18 = .ok (.putfield 44, 3) := by decide +kernel
