theorem dX2_isCoefficient_5 : decode cX2_isCoefficient 5 = .ok (.iconst 3, 1) := by decide +kernel
theorem dX2_isCoefficient_6 : decode cX2_isCoefficient 6 = .ok (.if_icmp .ge 7, 3) := by decide +kernel
theorem dX2_isCoefficient_9 : decode cX2_isCoefficient 9 = .ok (.iconst 1, 1) := by decide +kernel
theorem dX2_isCoefficient_10 : decode cX2_isCoefficient 10 = .ok (.goto 4, 3) := by decide +kernel
theorem dX2_isCoefficient_13 : decode cX2_isCoefficient 13 = .ok (.iconst 0, 1) := by decide +kernel
theorem dX2_isCoefficient_14 : decode cX2_isCoefficient 14 = .ok (.ireturn, 1) := by decide +kernel
theorem dX2_isNumber_0 : decode cX2_isNumber 0 = .ok (.iload_n 0, 1) := by decide +kernel
theorem dX2_isNumber_1 : decode cX2_isNumber 1 = .ok (.ifCond .lt 12, 3) := by decide +kernel
theorem dX2_isNumber_4 : decode cX2_isNumber 4 = .ok (.iload_n 0, 1) := by decide +kernel
theorem dX2_isNumber_5 : decode cX2_isNumber 5 = .ok (.iconst 4, 1) := by decide +kernel
theorem dX2_isNumber_6 : decode cX2_isNumber 6 = .ok (.if_icmp .ge 7, 3) := by decide +kernel
theorem dX2_isNumber_9 : decode cX2_isNumber 9 = .ok (.iconst 1, 1) := by decide +kernel
theorem dX2_isNumber_10 : decode cX2_isNumber 10 = .ok (.goto 4, 3) := by decide +kernel
theorem dX2_isNumber_13 : decode cX2_isNumber 13 = .ok (.iconst 0, 1) := by decide +kernel
theorem dX2_isNumber_14 : decode cX2_isNumber 14 = .ok (.ireturn, 1) := by decide +kernel
set_option maxRecDepth 20000 in
theorem ggX2_canBeTaken_X2_isSmallEnough : GoodIn wsX2_canBeTaken wsX2_isSmallEnough := goodIn_r _ [6, 7, 8] (by decide +kernel) (by decide +kernel)
set_option maxRecDepth 20000 in
theorem gX2_canBeTaken_X2_isSmallEnough : GoodIn wsX2_canBeTaken (va_wsS RX2 128 yX2_isSmallEnough wsX2_isSmallEnough) := goodIn_app (goodIn_of _ (by decide +kernel)) ggX2_canBeTaken_X2_isSmallEnough
set_option maxRecDepth 20000 in
theorem ggX2_canBeTaken_X2_discriminantOf : GoodIn wsX2_canBeTaken wsX2_discriminantOf := goodIn_r _ [11, 12] (by decide +kernel) (by decide +kernel)
set_option maxRecDepth 20000 in
theorem gX2_canBeTaken_X2_discriminantOf : GoodIn wsX2_canBeTaken (va_wsS RX2 132 yX2_discriminantOf wsX2_discriminantOf) := goodIn_app (goodIn_of _ (by decide +kernel)) ggX2_canBeTaken_X2_discriminantOf
set_option maxRecDepth 20000 in
theorem ggX2_canBeTaken_X2_wholeRoot : GoodIn wsX2_canBeTaken wsX2_wholeRoot := goodIn_r _ [15, 16] (by decide +kernel) (by decide +kernel)
set_option maxRecDepth 20000 in
theorem gX2_canBeTaken_X2_wholeRoot : GoodIn wsX2_canBeTaken (va_wsS RX2 140 yX2_wholeRoot wsX2_wholeRoot) := goodIn_app (goodIn_of _ (by decide +kernel)) ggX2_canBeTaken_X2_wholeRoot
theorem dX2_canBeTaken_0 : decode cX2_canBeTaken 0 = .ok (.lload_n 0, 1) := by decide +kernel
theorem dX2_canBeTaken_1 : decode cX2_canBeTaken 1 = .ok (.invokestatic 128, 3) := by decide +kernel
theorem dX2_canBeTaken_4 : decode cX2_canBeTaken 4 = .ok (.ifCond .eq 18, 3) := by decide +kernel
theorem dX2_canBeTaken_7 : decode cX2_canBeTaken 7 = .ok (.lload_n 2, 1) := by decide +kernel
theorem dX2_canBeTaken_8 : decode cX2_canBeTaken 8 = .ok (.invokestatic 128, 3) := by decide +kernel
theorem dX2_canBeTaken_11 : decode cX2_canBeTaken 11 = .ok (.ifCond .eq 11, 3) := by decide +kernel
theorem dX2_canBeTaken_14 : decode cX2_canBeTaken 14 = .ok (.lload 4, 2) := by decide +kernel
theorem dX2_canBeTaken_16 : decode cX2_canBeTaken 16 = .ok (.invokestatic 128, 3) := by decide +kernel
theorem dX2_canBeTaken_19 : decode cX2_canBeTaken 19 = .ok (.ifCond .ne 5, 3) := by decide +kernel
theorem dX2_canBeTaken_22 : decode cX2_canBeTaken 22 = .ok (.iconst 0, 1) := by decide +kernel
theorem dX2_canBeTaken_23 : decode cX2_canBeTaken 23 = .ok (.ireturn, 1) := by decide +kernel
theorem dX2_canBeTaken_24 : decode cX2_canBeTaken 24 = .ok (.lload_n 0, 1) := by decide +kernel
theorem dX2_canBeTaken_25 : decode cX2_canBeTaken 25 = .ok (.lload_n 2, 1) := by decide +kernel
theorem dX2_canBeTaken_26 : decode cX2_canBeTaken 26 = .ok (.lload 4, 2) := by decide +kernel
theorem dX2_canBeTaken_28 : decode cX2_canBeTaken 28 = .ok (.invokestatic 132, 3) := by decide +kernel
theorem dX2_canBeTaken_31 : decode cX2_canBeTaken 31 = .ok (.lstore 6, 2) := by decide +kernel
theorem dX2_canBeTaken_33 : decode cX2_canBeTaken 33 = .ok (.lload 6, 2) := by decide +kernel
theorem dX2_canBeTaken_35 : decode cX2_canBeTaken 35 = .ok (.ldc2_w 136, 3) := by decide +kernel
theorem dX2_canBeTaken_38 : decode cX2_canBeTaken 38 = .ok (.lcmp, 1) := by decide +kernel
theorem dX2_canBeTaken_39 : decode cX2_canBeTaken 39 = .ok (.ifCond .lt 12, 3) := by decide +kernel
theorem dX2_canBeTaken_42 : decode cX2_canBeTaken 42 = .ok (.lload 6, 2) := by decide +kernel
theorem dX2_canBeTaken_44 : decode cX2_canBeTaken 44 = .ok (.ldc2_w 138, 3) := by decide +kernel
theorem dX2_canBeTaken_47 : decode cX2_canBeTaken 47 = .ok (.lcmp, 1) := by decide +kernel
theorem dX2_canBeTaken_48 : decode cX2_canBeTaken 48 = .ok (.ifCond .le 5, 3) := by decide +kernel
theorem dX2_canBeTaken_51 : decode cX2_canBeTaken 51 = .ok (.iconst 0, 1) := by decide +kernel
theorem dX2_canBeTaken_52 : decode cX2_canBeTaken 52 = .ok (.ireturn, 1) := by decide +kernel
theorem dX2_canBeTaken_53 : decode cX2_canBeTaken 53 = .ok (.lload 6, 2) := by decide +kernel
theorem dX2_canBeTaken_55 : decode cX2_canBeTaken 55 = .ok (.lconst 0, 1) := by decide +kernel
theorem dX2_canBeTaken_56 : decode cX2_canBeTaken 56 = .ok (.lcmp, 1) := by decide +kernel
theorem dX2_canBeTaken_57 : decode cX2_canBeTaken 57 = .ok (.ifCond .ge 15, 3) := by decide +kernel
theorem dX2_canBeTaken_60 : decode cX2_canBeTaken 60 = .ok (.lload_n 0, 1) := by decide +kernel
theorem dX2_canBeTaken_61 : decode cX2_canBeTaken 61 = .ok (.lconst 0, 1) := by decide +kernel
theorem dX2_canBeTaken_62 : decode cX2_canBeTaken 62 = .ok (.lcmp, 1) := by decide +kernel
theorem dX2_canBeTaken_63 : decode cX2_canBeTaken 63 = .ok (.ifCond .le 7, 3) := by decide +kernel
theorem dX2_canBeTaken_66 : decode cX2_canBeTaken 66 = .ok (.iconst 1, 1) := by decide +kernel
theorem dX2_canBeTaken_67 : decode cX2_canBeTaken 67 = .ok (.goto 4, 3) := by decide +kernel
theorem dX2_canBeTaken_70 : decode cX2_canBeTaken 70 = .ok (.iconst 0, 1) := by decide +kernel
theorem dX2_canBeTaken_71 : decode cX2_canBeTaken 71 = .ok (.ireturn, 1) := by decide +kernel
theorem dX2_canBeTaken_72 : decode cX2_canBeTaken 72 = .ok (.lload 6, 2) := by decide +kernel
theorem dX2_canBeTaken_74 : decode cX2_canBeTaken 74 = .ok (.invokestatic 140, 3) := by decide +kernel
theorem dX2_canBeTaken_77 : decode cX2_canBeTaken 77 = .ok (.lstore 8, 2) := by decide +kernel
theorem dX2_canBeTaken_79 : decode cX2_canBeTaken 79 = .ok (.lload 8, 2) := by decide +kernel
theorem dX2_canBeTaken_81 : decode cX2_canBeTaken 81 = .ok (.lload 8, 2) := by decide +kernel
theorem dX2_canBeTaken_83 : decode cX2_canBeTaken 83 = .ok (.lmul, 1) := by decide +kernel
theorem dX2_canBeTaken_84 : decode cX2_canBeTaken 84 = .ok (.lload 6, 2) := by decide +kernel
theorem dX2_canBeTaken_86 : decode cX2_canBeTaken 86 = .ok (.lcmp, 1) := by decide +kernel
theorem dX2_canBeTaken_87 : decode cX2_canBeTaken 87 = .ok (.ifCond .eq 7, 3) := by decide +kernel
theorem dX2_canBeTaken_90 : decode cX2_canBeTaken 90 = .ok (.iconst 1, 1) := by decide +kernel
theorem dX2_canBeTaken_91 : decode cX2_canBeTaken 91 = .ok (.goto 4, 3) := by decide +kernel
theorem dX2_canBeTaken_94 : decode cX2_canBeTaken 94 = .ok (.iconst 0, 1) := by decide +kernel
theorem dX2_canBeTaken_95 : decode cX2_canBeTaken 95 = .ok (.ireturn, 1) := by decide +kernel
theorem dX2_isSmallEnough_0 : decode cX2_isSmallEnough 0 = .ok (.lload_n 0, 1) := by decide +kernel
theorem dX2_isSmallEnough_1 : decode cX2_isSmallEnough 1 = .ok (.ldc2_w 144, 3) := by decide +kernel
theorem dX2_isSmallEnough_4 : decode cX2_isSmallEnough 4 = .ok (.lcmp, 1) := by decide +kernel
theorem dX2_isSmallEnough_5 : decode cX2_isSmallEnough 5 = .ok (.ifCond .lt 15, 3) := by decide +kernel
theorem dX2_isSmallEnough_8 : decode cX2_isSmallEnough 8 = .ok (.lload_n 0, 1) := by decide +kernel
theorem dX2_isSmallEnough_9 : decode cX2_isSmallEnough 9 = .ok (.ldc2_w 146, 3) := by decide +kernel
theorem dX2_isSmallEnough_12 : decode cX2_isSmallEnough 12 = .ok (.lcmp, 1) := by decide +kernel
theorem dX2_isSmallEnough_13 : decode cX2_isSmallEnough 13 = .ok (.ifCond .gt 7, 3) := by decide +kernel
theorem dX2_isSmallEnough_16 : decode cX2_isSmallEnough 16 = .ok (.iconst 1, 1) := by decide +kernel
theorem dX2_isSmallEnough_17 : decode cX2_isSmallEnough 17 = .ok (.goto 4, 3) := by decide +kernel
theorem dX2_isSmallEnough_20 : decode cX2_isSmallEnough 20 = .ok (.iconst 0, 1) := by decide +kernel
theorem dX2_isSmallEnough_21 : decode cX2_isSmallEnough 21 = .ok (.ireturn, 1) := by decide +kernel
theorem dX2_discriminantOf_0 : decode cX2_discriminantOf 0 = .ok (.lload_n 2, 1) := by decide +kernel
theorem dX2_discriminantOf_1 : decode cX2_discriminantOf 1 = .ok (.lload_n 2, 1) := by decide +kernel
theorem dX2_discriminantOf_2 : decode cX2_discriminantOf 2 = .ok (.lmul, 1) := by decide +kernel
theorem dX2_discriminantOf_3 : decode cX2_discriminantOf 3 = .ok (.ldc2_w 148, 3) := by decide +kernel
theorem dX2_discriminantOf_6 : decode cX2_discriminantOf 6 = .ok (.lload_n 0, 1) := by decide +kernel
theorem dX2_discriminantOf_7 : decode cX2_discriminantOf 7 = .ok (.lmul, 1) := by decide +kernel
theorem dX2_discriminantOf_8 : decode cX2_discriminantOf 8 = .ok (.lload 4, 2) := by decide +kernel
theorem dX2_discriminantOf_10 : decode cX2_discriminantOf 10 = .ok (.lmul, 1) := by decide +kernel
theorem dX2_discriminantOf_11 : decode cX2_discriminantOf 11 = .ok (.lsub, 1) := by decide +kernel
theorem dX2_discriminantOf_12 : decode cX2_discriminantOf 12 = .ok (.lreturn, 1) := by decide +kernel
theorem dX2_wholeRoot_0 : decode cX2_wholeRoot 0 = .ok (.lload_n 0, 1) := by decide +kernel
theorem dX2_wholeRoot_1 : decode cX2_wholeRoot 1 = .ok (.lconst 0, 1) := by decide +kernel
theorem dX2_wholeRoot_2 : decode cX2_wholeRoot 2 = .ok (.lcmp, 1) := by decide +kernel
theorem dX2_wholeRoot_3 : decode cX2_wholeRoot 3 = .ok (.ifCond .ge 7, 3) := by decide +kernel
theorem dX2_wholeRoot_6 : decode cX2_wholeRoot 6 = .ok (.ldc2_w 150, 3) := by decide +kernel
theorem dX2_wholeRoot_9 : decode cX2_wholeRoot 9 = .ok (.lreturn, 1) := by decide +kernel
theorem dX2_wholeRoot_10 : decode cX2_wholeRoot 10 = .ok (.lconst 0, 1) := by decide +kernel
theorem dX2_wholeRoot_11 : decode cX2_wholeRoot 11 = .ok (.lstore_n 2, 1) := by decide +kernel
theorem dX2_wholeRoot_12 : decode cX2_wholeRoot 12 = .ok (.sipush 1024, 3) := by decide +kernel
theorem dX2_wholeRoot_15 : decode cX2_wholeRoot 15 = .ok (.istore 4, 2) := by decide +kernel
theorem dX2_wholeRoot_17 : decode cX2_wholeRoot 17 = .ok (.iload 4, 2) := by decide +kernel
theorem dX2_wholeRoot_19 : decode cX2_wholeRoot 19 = .ok (.ifCond .le 32, 3) := by decide +kernel
theorem dX2_wholeRoot_22 : decode cX2_wholeRoot 22 = .ok (.lload_n 2, 1) := by decide +kernel
theorem dX2_wholeRoot_23 : decode cX2_wholeRoot 23 = .ok (.iload 4, 2) := by decide +kernel
theorem dX2_wholeRoot_25 : decode cX2_wholeRoot 25 = .ok (.i2l, 1) := by decide +kernel
theorem dX2_wholeRoot_26 : decode cX2_wholeRoot 26 = .ok (.ladd, 1) := by decide +kernel
theorem dX2_wholeRoot_27 : decode cX2_wholeRoot 27 = .ok (.lstore 5, 2) := by decide +kernel
theorem dX2_wholeRoot_29 : decode cX2_wholeRoot 29 = .ok (.lload 5, 2) := by decide +kernel
theorem dX2_wholeRoot_31 : decode cX2_wholeRoot 31 = .ok (.lload 5, 2) := by decide +kernel
theorem dX2_wholeRoot_33 : decode cX2_wholeRoot 33 = .ok (.lmul, 1) := by decide +kernel
theorem dX2_wholeRoot_34 : decode cX2_wholeRoot 34 = .ok (.lload_n 0, 1) := by decide +kernel
theorem dX2_wholeRoot_35 : decode cX2_wholeRoot 35 = .ok (.lcmp, 1) := by decide +kernel
theorem dX2_wholeRoot_36 : decode cX2_wholeRoot 36 = .ok (.ifCond .gt 6, 3) := by decide +kernel
theorem dX2_wholeRoot_39 : decode cX2_wholeRoot 39 = .ok (.lload 5, 2) := by decide +kernel
theorem dX2_wholeRoot_41 : decode cX2_wholeRoot 41 = .ok (.lstore_n 2, 1) := by decide +kernel
theorem dX2_wholeRoot_42 : decode cX2_wholeRoot 42 = .ok (.iload 4, 2) := by decide +kernel
theorem dX2_wholeRoot_44 : decode cX2_wholeRoot 44 = .ok (.iconst 1, 1) := by decide +kernel
theorem dX2_wholeRoot_45 : decode cX2_wholeRoot 45 = .ok (.ishr, 1) := by decide +kernel
theorem dX2_wholeRoot_46 : decode cX2_wholeRoot 46 = .ok (.istore 4, 2) := by decide +kernel
theorem dX2_wholeRoot_48 : decode cX2_wholeRoot 48 = .ok (.goto (-31), 3) := by decide +kernel
theorem dX2_wholeRoot_51 : decode cX2_wholeRoot 51 = .ok (.lload_n 2, 1) := by decide +kernel
theorem dX2_wholeRoot_52 : decode cX2_wholeRoot 52 = .ok (.lreturn, 1) := by decide +kernel
set_option maxRecDepth 20000 in
theorem ggX2_settle_X0_copy : GoodIn wsX2_settle wsX0_copy := goodIn_r _ [10, 11, 12, 13, 14, 15, 71, 72, 73, 74, 75] (by decide +kernel) (by decide +kernel)
set_option maxRecDepth 20000 in
theorem gX2_settle_X0_copy : GoodIn wsX2_settle (wsV RX2 86 RX0 yX0_copy wsX0_copy) := goodIn_app (goodIn_of _ (by decide +kernel)) ggX2_settle_X0_copy
set_option maxRecDepth 20000 in
theorem ggX2_settle_X0_goToReduced : GoodIn wsX2_settle wsX0_goToReduced := goodIn_r _ [19, 20, 21, 22, 23, 9, 24, 14, 12, 25, 26, 27, 28, 11, 13, 29, 15, 30, 31, 32, 33, 34, 35, 36, 37, 38, 39, 40, 41, 42, 71, 72, 73, 74, 75] (by decide +kernel) (by decide +kernel)
set_option maxRecDepth 20000 in
theorem gX2_settle_X0_goToReduced : GoodIn wsX2_settle (wsV RX2 96 RX0 yX0_goToReduced wsX0_goToReduced) := goodIn_app (goodIn_of _ (by decide +kernel)) ggX2_settle_X0_goToReduced
set_option maxRecDepth 20000 in
theorem ggX2_settle_X2_findName : GoodIn wsX2_settle wsX2_findName := goodIn_r _ [47, 48, 5, 4, 49, 50, 3, 51, 2, 52, 6, 7, 8, 9, 10, 11, 12, 13, 14, 15, 53, 31, 32, 33, 25, 26, 27, 28, 29, 34, 35, 36, 37, 38, 39, 40, 41, 42, 54, 55, 56, 57, 58, 59, 60, 61, 62, 63, 64, 65, 66, 67, 68, 69, 70, 71, 72, 73, 74, 75] (by decide +kernel) (by decide +kernel)
set_option maxRecDepth 20000 in
theorem gX2_settle_X2_findName : GoodIn wsX2_settle (wsV RX2 156 RX2 yX2_findName wsX2_findName) := goodIn_app (goodIn_of _ (by decide +kernel)) ggX2_settle_X2_findName
theorem dX2_settle_0 : decode cX2_settle 0 = .ok (.aload_n 0, 1) := by decide +kernel
theorem dX2_settle_1 : decode cX2_settle 1 = .ok (.iconst 0, 1) := by decide +kernel
theorem dX2_settle_2 : decode cX2_settle 2 = .ok (.putfield 152, 3) := by decide +kernel
theorem dX2_settle_5 : decode cX2_settle 5 = .ok (.aload_n 0, 1) := by decide +kernel
theorem dX2_settle_6 : decode cX2_settle 6 = .ok (.getfield 22, 3) := by decide +kernel
theorem dX2_settle_9 : decode cX2_settle 9 = .ok (.aload_n 0, 1) := by decide +kernel
theorem dX2_settle_10 : decode cX2_settle 10 = .ok (.getfield 10, 3) := by decide +kernel
theorem dX2_settle_13 : decode cX2_settle 13 = .ok (.invokevirtual 86, 3) := by decide +kernel
theorem dX2_settle_16 : decode cX2_settle 16 = .ok (.aload_n 0, 1) := by decide +kernel
theorem dX2_settle_17 : decode cX2_settle 17 = .ok (.aload_n 0, 1) := by decide +kernel
theorem dX2_settle_18 : decode cX2_settle 18 = .ok (.getfield 22, 3) := by decide +kernel
theorem dX2_settle_21 : decode cX2_settle 21 = .ok (.invokevirtual 96, 3) := by decide +kernel
theorem dX2_settle_24 : decode cX2_settle 24 = .ok (.putfield 74, 3) := by decide +kernel
theorem dX2_settle_27 : decode cX2_settle 27 = .ok (.aload_n 0, 1) := by decide +kernel
theorem dX2_settle_28 : decode cX2_settle 28 = .ok (.getfield 16, 3) := by decide +kernel
theorem dX2_settle_31 : decode cX2_settle 31 = .ok (.aload_n 0, 1) := by decide +kernel
theorem dX2_settle_32 : decode cX2_settle 32 = .ok (.getfield 22, 3) := by decide +kernel
theorem dX2_settle_35 : decode cX2_settle 35 = .ok (.invokevirtual 86, 3) := by decide +kernel
theorem dX2_settle_38 : decode cX2_settle 38 = .ok (.aload_n 0, 1) := by decide +kernel
theorem dX2_settle_39 : decode cX2_settle 39 = .ok (.invokevirtual 156, 3) := by decide +kernel
theorem dX2_settle_42 : decode cX2_settle 42 = .ok (.return_, 1) := by decide +kernel
set_option maxRecDepth 20000 in
theorem ggX2_findName_X0_copy : GoodIn wsX2_findName wsX0_copy := goodIn_r _ [14, 15, 16, 17, 18, 19, 55, 56, 57, 58, 59] (by decide +kernel) (by decide +kernel)
set_option maxRecDepth 20000 in
theorem gX2_findName_X0_copy : GoodIn wsX2_findName (wsV RX2 86 RX0 yX0_copy wsX0_copy) := goodIn_app (goodIn_of _ (by decide +kernel)) ggX2_findName_X0_copy
set_option maxRecDepth 20000 in
theorem ggX2_findName_X0_goOn : GoodIn wsX2_findName wsX0_goOn := goodIn_r _ [23, 17, 24, 25, 26, 27, 16, 28, 18, 29, 15, 30, 31, 32, 13, 33, 19, 34, 35, 36, 37, 55, 56, 57, 58, 59] (by decide +kernel) (by decide +kernel)
set_option maxRecDepth 20000 in
theorem gX2_findName_X0_goOn : GoodIn wsX2_findName (wsV RX2 90 RX0 yX0_goOn wsX0_goOn) := goodIn_app (goodIn_of _ (by decide +kernel)) ggX2_findName_X0_goOn
set_option maxRecDepth 20000 in
theorem ggX2_findName_X0_isSame : GoodIn wsX2_findName wsX0_isSame := goodIn_r _ [41, 15, 16, 17, 55, 56, 57, 58, 59] (by decide +kernel) (by decide +kernel)
set_option maxRecDepth 20000 in
theorem gX2_findName_X0_isSame : GoodIn wsX2_findName (wsV RX2 99 RX0 yX0_isSame wsX0_isSame) := goodIn_app (goodIn_of _ (by decide +kernel)) ggX2_findName_X0_isSame
set_option maxRecDepth 20000 in
theorem ggX2_findName_X0_isBefore : GoodIn wsX2_findName wsX0_isBefore := goodIn_r _ [45, 15, 16, 55, 56, 57, 58, 59] (by decide +kernel) (by decide +kernel)
set_option maxRecDepth 20000 in
theorem gX2_findName_X0_isBefore : GoodIn wsX2_findName (wsV RX2 160 RX0 yX0_isBefore wsX0_isBefore) := goodIn_app (goodIn_of _ (by decide +kernel)) ggX2_findName_X0_isBefore
theorem dX2_findName_0 : decode cX2_findName 0 = .ok (.aload_n 0, 1) := by decide +kernel
theorem dX2_findName_1 : decode cX2_findName 1 = .ok (.getfield 19, 3) := by decide +kernel
theorem dX2_findName_4 : decode cX2_findName 4 = .ok (.aload_n 0, 1) := by decide +kernel
theorem dX2_findName_5 : decode cX2_findName 5 = .ok (.getfield 16, 3) := by decide +kernel
theorem dX2_findName_8 : decode cX2_findName 8 = .ok (.invokevirtual 86, 3) := by decide +kernel
theorem dX2_findName_11 : decode cX2_findName 11 = .ok (.aload_n 0, 1) := by decide +kernel
theorem dX2_findName_12 : decode cX2_findName 12 = .ok (.aload_n 0, 1) := by decide +kernel
theorem dX2_findName_13 : decode cX2_findName 13 = .ok (.getfield 74, 3) := by decide +kernel
theorem dX2_findName_16 : decode cX2_findName 16 = .ok (.putfield 78, 3) := by decide +kernel
theorem dX2_findName_19 : decode cX2_findName 19 = .ok (.aload_n 0, 1) := by decide +kernel
theorem dX2_findName_20 : decode cX2_findName 20 = .ok (.iconst 1, 1) := by decide +kernel
theorem dX2_findName_21 : decode cX2_findName 21 = .ok (.putfield 81, 3) := by decide +kernel
theorem dX2_findName_24 : decode cX2_findName 24 = .ok (.aload_n 0, 1) := by decide +kernel
theorem dX2_findName_25 : decode cX2_findName 25 = .ok (.getfield 10, 3) := by decide +kernel
theorem dX2_findName_28 : decode cX2_findName 28 = .ok (.getfield 50, 3) := by decide +kernel
theorem dX2_findName_31 : decode cX2_findName 31 = .ok (.lconst 0, 1) := by decide +kernel
theorem dX2_findName_32 : decode cX2_findName 32 = .ok (.lcmp, 1) := by decide +kernel
theorem dX2_findName_33 : decode cX2_findName 33 = .ok (.ifCond .ge 4, 3) := by decide +kernel
theorem dX2_findName_36 : decode cX2_findName 36 = .ok (.return_, 1) := by decide +kernel
theorem dX2_findName_37 : decode cX2_findName 37 = .ok (.aload_n 0, 1) := by decide +kernel
theorem dX2_findName_38 : decode cX2_findName 38 = .ok (.getfield 22, 3) := by decide +kernel
theorem dX2_findName_41 : decode cX2_findName 41 = .ok (.invokevirtual 90, 3) := by decide +kernel
theorem dX2_findName_44 : decode cX2_findName 44 = .ok (.pop2, 1) := by decide +kernel
theorem dX2_findName_45 : decode cX2_findName 45 = .ok (.aload_n 0, 1) := by decide +kernel
theorem dX2_findName_46 : decode cX2_findName 46 = .ok (.getfield 81, 3) := by decide +kernel
theorem dX2_findName_49 : decode cX2_findName 49 = .ok (.ldc 159, 2) := by decide +kernel
theorem dX2_findName_51 : decode cX2_findName 51 = .ok (.if_icmp .ge 76, 3) := by decide +kernel
theorem dX2_findName_54 : decode cX2_findName 54 = .ok (.aload_n 0, 1) := by decide +kernel
theorem dX2_findName_55 : decode cX2_findName 55 = .ok (.getfield 22, 3) := by decide +kernel
theorem dX2_findName_58 : decode cX2_findName 58 = .ok (.aload_n 0, 1) := by decide +kernel
theorem dX2_findName_59 : decode cX2_findName 59 = .ok (.getfield 16, 3) := by decide +kernel
theorem dX2_findName_62 : decode cX2_findName 62 = .ok (.invokevirtual 99, 3) := by decide +kernel
theorem dX2_findName_65 : decode cX2_findName 65 = .ok (.ifCond .ne 62, 3) := by decide +kernel
theorem dX2_findName_68 : decode cX2_findName 68 = .ok (.aload_n 0, 1) := by decide +kernel
theorem dX2_findName_69 : decode cX2_findName 69 = .ok (.getfield 22, 3) := by decide +kernel
theorem dX2_findName_72 : decode cX2_findName 72 = .ok (.aload_n 0, 1) := by decide +kernel
theorem dX2_findName_73 : decode cX2_findName 73 = .ok (.getfield 19, 3) := by decide +kernel
theorem dX2_findName_76 : decode cX2_findName 76 = .ok (.invokevirtual 160, 3) := by decide +kernel
theorem dX2_findName_79 : decode cX2_findName 79 = .ok (.ifCond .eq 27, 3) := by decide +kernel
theorem dX2_findName_82 : decode cX2_findName 82 = .ok (.aload_n 0, 1) := by decide +kernel
theorem dX2_findName_83 : decode cX2_findName 83 = .ok (.getfield 19, 3) := by decide +kernel
theorem dX2_findName_86 : decode cX2_findName 86 = .ok (.aload_n 0, 1) := by decide +kernel
theorem dX2_findName_87 : decode cX2_findName 87 = .ok (.getfield 22, 3) := by decide +kernel
theorem dX2_findName_90 : decode cX2_findName 90 = .ok (.invokevirtual 86, 3) := by decide +kernel
theorem dX2_findName_93 : decode cX2_findName 93 = .ok (.aload_n 0, 1) := by decide +kernel
theorem dX2_findName_94 : decode cX2_findName 94 = .ok (.aload_n 0, 1) := by decide +kernel
theorem dX2_findName_95 : decode cX2_findName 95 = .ok (.getfield 74, 3) := by decide +kernel
theorem dX2_findName_98 : decode cX2_findName 98 = .ok (.aload_n 0, 1) := by decide +kernel
theorem dX2_findName_99 : decode cX2_findName 99 = .ok (.getfield 81, 3) := by decide +kernel
theorem dX2_findName_102 : decode cX2_findName 102 = .ok (.iadd, 1) := by decide +kernel
theorem dX2_findName_103 : decode cX2_findName 103 = .ok (.putfield 78, 3) := by decide +kernel
theorem dX2_findName_106 : decode cX2_findName 106 = .ok (.aload_n 0, 1) := by decide +kernel
theorem dX2_findName_107 : decode cX2_findName 107 = .ok (.getfield 22, 3) := by decide +kernel
theorem dX2_findName_110 : decode cX2_findName 110 = .ok (.invokevirtual 90, 3) := by decide +kernel
theorem dX2_findName_113 : decode cX2_findName 113 = .ok (.pop2, 1) := by decide +kernel
theorem dX2_findName_114 : decode cX2_findName 114 = .ok (.aload_n 0, 1) := by decide +kernel
theorem dX2_findName_115 : decode cX2_findName 115 = .ok (.dup, 1) := by decide +kernel
theorem dX2_findName_116 : decode cX2_findName 116 = .ok (.getfield 81, 3) := by decide +kernel
theorem dX2_findName_119 : decode cX2_findName 119 = .ok (.iconst 1, 1) := by decide +kernel
theorem dX2_findName_120 : decode cX2_findName 120 = .ok (.iadd, 1) := by decide +kernel
theorem dX2_findName_121 : decode cX2_findName 121 = .ok (.putfield 81, 3) := by decide +kernel
theorem dX2_findName_124 : decode cX2_findName 124 = .ok (.goto (-79), 3) := by decide +kernel
theorem dX2_findName_127 : decode cX2_findName 127 = .ok (.return_, 1) := by decide +kernel
set_option maxRecDepth 20000 in
theorem ggX2_makeMatrix_X0_copy : GoodIn wsX2_makeMatrix wsX0_copy := goodIn_r _ [10, 11, 12, 13, 14, 15, 97, 98, 99, 100, 101] (by decide +kernel) (by decide +kernel)
set_option maxRecDepth 20000 in
theorem gX2_makeMatrix_X0_copy : GoodIn wsX2_makeMatrix (wsV RX2 86 RX0 yX0_copy wsX0_copy) := goodIn_app (goodIn_of _ (by decide +kernel)) ggX2_makeMatrix_X0_copy
set_option maxRecDepth 20000 in
theorem ggX2_makeMatrix_X1_begin : GoodIn wsX2_makeMatrix wsX1_begin := goodIn_r _ [20, 21, 22, 23, 24, 25, 19, 26, 27, 28, 29, 30, 102, 103, 104, 105, 106, 107, 108] (by decide +kernel) (by decide +kernel)
set_option maxRecDepth 20000 in
theorem gX2_makeMatrix_X1_begin : GoodIn wsX2_makeMatrix (wsV RX2 163 RX1 yX1_begin wsX1_begin) := goodIn_app (goodIn_of _ (by decide +kernel)) ggX2_makeMatrix_X1_begin
set_option maxRecDepth 20000 in
theorem ggX2_makeMatrix_X0_goOn : GoodIn wsX2_makeMatrix wsX0_goOn := goodIn_r _ [34, 13, 35, 36, 37, 38, 12, 39, 14, 40, 11, 41, 42, 43, 9, 44, 15, 45, 46, 47, 48, 97, 98, 99, 100, 101] (by decide +kernel) (by decide +kernel)
set_option maxRecDepth 20000 in
theorem gX2_makeMatrix_X0_goOn : GoodIn wsX2_makeMatrix (wsV RX2 90 RX0 yX0_goOn wsX0_goOn) := goodIn_app (goodIn_of _ (by decide +kernel)) ggX2_makeMatrix_X0_goOn
set_option maxRecDepth 20000 in
theorem ggX2_makeMatrix_X1_undoStep : GoodIn wsX2_makeMatrix wsX1_undoStep := goodIn_r _ [52, 27, 29, 28, 30, 53, 54, 19, 55, 56, 57, 58, 59, 60, 61, 22, 62, 63, 64, 65, 21, 66, 67, 68, 69, 70, 71, 72, 73, 74, 23, 24, 25, 26, 102, 103, 104, 105, 106, 107, 108] (by decide +kernel) (by decide +kernel)
set_option maxRecDepth 20000 in
theorem gX2_makeMatrix_X1_undoStep : GoodIn wsX2_makeMatrix (wsV RX2 166 RX1 yX1_undoStep wsX1_undoStep) := goodIn_app (goodIn_of _ (by decide +kernel)) ggX2_makeMatrix_X1_undoStep
set_option maxRecDepth 20000 in
theorem ggX2_makeMatrix_X1_finish : GoodIn wsX2_makeMatrix wsX1_finish := goodIn_r _ [78, 79, 22, 58, 59, 60, 19, 61, 62, 63, 64, 65, 21, 66, 67, 68, 69, 70, 27, 28, 29, 30, 71, 72, 73, 74, 23, 24, 25, 26, 80, 81, 82, 83, 84, 85, 86, 87, 102, 103, 104, 105, 106, 107, 108] (by decide +kernel) (by decide +kernel)
set_option maxRecDepth 20000 in
theorem gX2_makeMatrix_X1_finish : GoodIn wsX2_makeMatrix (wsV RX2 170 RX1 yX1_finish wsX1_finish) := goodIn_app (goodIn_of _ (by decide +kernel)) ggX2_makeMatrix_X1_finish
theorem dX2_makeMatrix_0 : decode cX2_makeMatrix 0 = .ok (.aload_n 0, 1) := by decide +kernel
theorem dX2_makeMatrix_1 : decode cX2_makeMatrix 1 = .ok (.getfield 152, 3) := by decide +kernel
theorem dX2_makeMatrix_4 : decode cX2_makeMatrix 4 = .ok (.ifCond .eq 4, 3) := by decide +kernel
theorem dX2_makeMatrix_7 : decode cX2_makeMatrix 7 = .ok (.return_, 1) := by decide +kernel
theorem dX2_makeMatrix_8 : decode cX2_makeMatrix 8 = .ok (.aload_n 0, 1) := by decide +kernel
theorem dX2_makeMatrix_9 : decode cX2_makeMatrix 9 = .ok (.getfield 22, 3) := by decide +kernel
theorem dX2_makeMatrix_12 : decode cX2_makeMatrix 12 = .ok (.aload_n 0, 1) := by decide +kernel
theorem dX2_makeMatrix_13 : decode cX2_makeMatrix 13 = .ok (.getfield 10, 3) := by decide +kernel
theorem dX2_makeMatrix_16 : decode cX2_makeMatrix 16 = .ok (.invokevirtual 86, 3) := by decide +kernel
theorem dX2_makeMatrix_19 : decode cX2_makeMatrix 19 = .ok (.aload_n 0, 1) := by decide +kernel
theorem dX2_makeMatrix_20 : decode cX2_makeMatrix 20 = .ok (.getfield 28, 3) := by decide +kernel
theorem dX2_makeMatrix_23 : decode cX2_makeMatrix 23 = .ok (.invokevirtual 163, 3) := by decide +kernel
theorem dX2_makeMatrix_26 : decode cX2_makeMatrix 26 = .ok (.iconst 0, 1) := by decide +kernel
theorem dX2_makeMatrix_27 : decode cX2_makeMatrix 27 = .ok (.istore_n 1, 1) := by decide +kernel
theorem dX2_makeMatrix_28 : decode cX2_makeMatrix 28 = .ok (.iload_n 1, 1) := by decide +kernel
theorem dX2_makeMatrix_29 : decode cX2_makeMatrix 29 = .ok (.aload_n 0, 1) := by decide +kernel
theorem dX2_makeMatrix_30 : decode cX2_makeMatrix 30 = .ok (.getfield 78, 3) := by decide +kernel
theorem dX2_makeMatrix_33 : decode cX2_makeMatrix 33 = .ok (.if_icmp .ge 23, 3) := by decide +kernel
theorem dX2_makeMatrix_36 : decode cX2_makeMatrix 36 = .ok (.aload_n 0, 1) := by decide +kernel
theorem dX2_makeMatrix_37 : decode cX2_makeMatrix 37 = .ok (.getfield 28, 3) := by decide +kernel
theorem dX2_makeMatrix_40 : decode cX2_makeMatrix 40 = .ok (.aload_n 0, 1) := by decide +kernel
theorem dX2_makeMatrix_41 : decode cX2_makeMatrix 41 = .ok (.getfield 22, 3) := by decide +kernel
theorem dX2_makeMatrix_44 : decode cX2_makeMatrix 44 = .ok (.invokevirtual 90, 3) := by decide +kernel
theorem dX2_makeMatrix_47 : decode cX2_makeMatrix 47 = .ok (.invokevirtual 166, 3) := by decide +kernel
theorem dX2_makeMatrix_50 : decode cX2_makeMatrix 50 = .ok (.iinc 1 1, 3) := by decide +kernel
theorem dX2_makeMatrix_53 : decode cX2_makeMatrix 53 = .ok (.goto (-25), 3) := by decide +kernel
theorem dX2_makeMatrix_56 : decode cX2_makeMatrix 56 = .ok (.aload_n 0, 1) := by decide +kernel
theorem dX2_makeMatrix_57 : decode cX2_makeMatrix 57 = .ok (.getfield 28, 3) := by decide +kernel
theorem dX2_makeMatrix_60 : decode cX2_makeMatrix 60 = .ok (.invokevirtual 170, 3) := by decide +kernel
theorem dX2_makeMatrix_63 : decode cX2_makeMatrix 63 = .ok (.aload_n 0, 1) := by decide +kernel
theorem dX2_makeMatrix_64 : decode cX2_makeMatrix 64 = .ok (.iconst 1, 1) := by decide +kernel
theorem dX2_makeMatrix_65 : decode cX2_makeMatrix 65 = .ok (.putfield 152, 3) := by decide +kernel
theorem dX2_makeMatrix_68 : decode cX2_makeMatrix 68 = .ok (.return_, 1) := by decide +kernel
set_option maxRecDepth 20000 in
theorem ggX3_init_X3_put : GoodIn wsX3_init wsX3_put := goodIn_r _ [19, 14, 20, 21, 22, 23, 24, 25, 26, 27, 28, 29, 30, 31, 32, 33, 34] (by decide +kernel) (by decide +kernel)
set_option maxRecDepth 20000 in
theorem gX3_init_X3_put : GoodIn wsX3_init (wsV RX3 40 RX3 yX3_put wsX3_put) := goodIn_app (goodIn_of _ (by decide +kernel)) ggX3_init_X3_put
theorem dX3_init_0 : decode cX3_init 0 = .ok (.aload_n 0, 1) := by decide +kernel
theorem dX3_init_1 : decode cX3_init 1 = .ok (.invokespecial 1, 3) := by decide +kernel
theorem dX3_init_4 : decode cX3_init 4 = .ok (.aload_n 0, 1) := by decide +kernel
theorem dX3_init_5 : decode cX3_init 5 = .ok (.lconst 1, 1) := by decide +kernel
theorem dX3_init_6 : decode cX3_init 6 = .ok (.putfield 7, 3) := by decide +kernel
theorem dX3_init_9 : decode cX3_init 9 = .ok (.aload_n 0, 1) := by decide +kernel
theorem dX3_init_10 : decode cX3_init 10 = .ok (.lconst 1, 1) := by decide +kernel
theorem dX3_init_11 : decode cX3_init 11 = .ok (.putfield 13, 3) := by decide +kernel
theorem dX3_init_14 : decode cX3_init 14 = .ok (.aload_n 0, 1) := by decide +kernel
theorem dX3_init_15 : decode cX3_init 15 = .ok (.ldc2_w 16, 3) := by decide +kernel
theorem dX3_init_18 : decode cX3_init 18 = .ok (.putfield 18, 3) := by decide +kernel
theorem dX3_init_21 : decode cX3_init 21 = .ok (.aload_n 0, 1) := by decide +kernel
theorem dX3_init_22 : decode cX3_init 22 = .ok (.ldc2_w 21, 3) := by decide +kernel
theorem dX3_init_25 : decode cX3_init 25 = .ok (.putfield 23, 3) := by decide +kernel
theorem dX3_init_28 : decode cX3_init 28 = .ok (.aload_n 0, 1) := by decide +kernel
theorem dX3_init_29 : decode cX3_init 29 = .ok (.lconst 1, 1) := by decide +kernel
theorem dX3_init_30 : decode cX3_init 30 = .ok (.putfield 26, 3) := by decide +kernel
theorem dX3_init_33 : decode cX3_init 33 = .ok (.aload_n 0, 1) := by decide +kernel
theorem dX3_init_34 : decode cX3_init 34 = .ok (.lconst 1, 1) := by decide +kernel
theorem dX3_init_35 : decode cX3_init 35 = .ok (.putfield 29, 3) := by decide +kernel
theorem dX3_init_38 : decode cX3_init 38 = .ok (.aload_n 0, 1) := by decide +kernel
theorem dX3_init_39 : decode cX3_init 39 = .ok (.iconst 4, 1) := by decide +kernel
theorem dX3_init_40 : decode cX3_init 40 = .ok (.putfield 32, 3) := by decide +kernel
theorem dX3_init_43 : decode cX3_init 43 = .ok (.aload_n 0, 1) := by decide +kernel
theorem dX3_init_44 : decode cX3_init 44 = .ok (.sipush 6600, 3) := by decide +kernel
theorem dX3_init_47 : decode cX3_init 47 = .ok (.newarray .int, 2) := by decide +kernel
theorem dX3_init_49 : decode cX3_init 49 = .ok (.putfield 36, 3) := by decide +kernel
theorem dX3_init_52 : decode cX3_init 52 = .ok (.aload_n 0, 1) := by decide +kernel
theorem dX3_init_53 : decode cX3_init 53 = .ok (.iconst 0, 1) := by decide +kernel
