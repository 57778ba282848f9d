theorem dX3_init_54 : decode cX3_init 54 = .ok (.iconst 0, 1) := by decide +kernel
theorem dX3_init_55 : decode cX3_init 55 = .ok (.iconst 1, 1) := by decide +kernel
theorem dX3_init_56 : decode cX3_init 56 = .ok (.invokevirtual 40, 3) := by decide +kernel
theorem dX3_init_59 : decode cX3_init 59 = .ok (.aload_n 0, 1) := by decide +kernel
theorem dX3_init_60 : decode cX3_init 60 = .ok (.iconst 3, 1) := by decide +kernel
theorem dX3_init_61 : decode cX3_init 61 = .ok (.iconst 0, 1) := by decide +kernel
theorem dX3_init_62 : decode cX3_init 62 = .ok (.iconst 1, 1) := by decide +kernel
theorem dX3_init_63 : decode cX3_init 63 = .ok (.invokevirtual 40, 3) := by decide +kernel
theorem dX3_init_66 : decode cX3_init 66 = .ok (.return_, 1) := by decide +kernel
theorem dX3_thrown_0 : decode cX3_thrown 0 = .ok (.aload_n 0, 1) := by decide +kernel
theorem dX3_thrown_1 : decode cX3_thrown 1 = .ok (.getfield 44, 3) := by decide +kernel
theorem dX3_thrown_4 : decode cX3_thrown 4 = .ok (.ireturn, 1) := by decide +kernel
theorem dX3_raise_0 : decode cX3_raise 0 = .ok (.aload_n 0, 1) := by decide +kernel
theorem dX3_raise_1 : decode cX3_raise 1 = .ok (.iload_n 1, 1) := by decide +kernel
theorem dX3_raise_2 : decode cX3_raise 2 = .ok (.putfield 44, 3) := by decide +kernel
theorem dX3_raise_5 : decode cX3_raise 5 = .ok (.iconst 0, 1) := by decide +kernel
theorem dX3_raise_6 : decode cX3_raise 6 = .ok (.ireturn, 1) := by decide +kernel
theorem dX3_in_0 : decode cX3_in 0 = .ok (.lload_n 0, 1) := by decide +kernel
theorem dX3_in_1 : decode cX3_in 1 = .ok (.lload_n 2, 1) := by decide +kernel
theorem dX3_in_2 : decode cX3_in 2 = .ok (.lcmp, 1) := by decide +kernel
theorem dX3_in_3 : decode cX3_in 3 = .ok (.ifCond .lt 14, 3) := by decide +kernel
theorem dX3_in_6 : decode cX3_in 6 = .ok (.lload_n 0, 1) := by decide +kernel
theorem dX3_in_7 : decode cX3_in 7 = .ok (.lload 4, 2) := by decide +kernel
theorem dX3_in_9 : decode cX3_in 9 = .ok (.lcmp, 1) := by decide +kernel
theorem dX3_in_10 : decode cX3_in 10 = .ok (.ifCond .gt 7, 3) := by decide +kernel
theorem dX3_in_13 : decode cX3_in 13 = .ok (.iconst 1, 1) := by decide +kernel
theorem dX3_in_14 : decode cX3_in 14 = .ok (.goto 4, 3) := by decide +kernel
theorem dX3_in_17 : decode cX3_in 17 = .ok (.iconst 0, 1) := by decide +kernel
theorem dX3_in_18 : decode cX3_in 18 = .ok (.ireturn, 1) := by decide +kernel
theorem dX3_wholeRoot_0 : decode cX3_wholeRoot 0 = .ok (.lconst 0, 1) := by decide +kernel
theorem dX3_wholeRoot_1 : decode cX3_wholeRoot 1 = .ok (.lstore_n 2, 1) := by decide +kernel
theorem dX3_wholeRoot_2 : decode cX3_wholeRoot 2 = .ok (.lload_n 2, 1) := by decide +kernel
theorem dX3_wholeRoot_3 : decode cX3_wholeRoot 3 = .ok (.lconst 1, 1) := by decide +kernel
theorem dX3_wholeRoot_4 : decode cX3_wholeRoot 4 = .ok (.ladd, 1) := by decide +kernel
theorem dX3_wholeRoot_5 : decode cX3_wholeRoot 5 = .ok (.lload_n 2, 1) := by decide +kernel
theorem dX3_wholeRoot_6 : decode cX3_wholeRoot 6 = .ok (.lconst 1, 1) := by decide +kernel
theorem dX3_wholeRoot_7 : decode cX3_wholeRoot 7 = .ok (.ladd, 1) := by decide +kernel
theorem dX3_wholeRoot_8 : decode cX3_wholeRoot 8 = .ok (.lmul, 1) := by decide +kernel
theorem dX3_wholeRoot_9 : decode cX3_wholeRoot 9 = .ok (.lload_n 0, 1) := by decide +kernel
theorem dX3_wholeRoot_10 : decode cX3_wholeRoot 10 = .ok (.lcmp, 1) := by decide +kernel
theorem dX3_wholeRoot_11 : decode cX3_wholeRoot 11 = .ok (.ifCond .gt 10, 3) := by decide +kernel
theorem dX3_wholeRoot_14 : decode cX3_wholeRoot 14 = .ok (.lload_n 2, 1) := by decide +kernel
theorem dX3_wholeRoot_15 : decode cX3_wholeRoot 15 = .ok (.lconst 1, 1) := by decide +kernel
theorem dX3_wholeRoot_16 : decode cX3_wholeRoot 16 = .ok (.ladd, 1) := by decide +kernel
theorem dX3_wholeRoot_17 : decode cX3_wholeRoot 17 = .ok (.lstore_n 2, 1) := by decide +kernel
theorem dX3_wholeRoot_18 : decode cX3_wholeRoot 18 = .ok (.goto (-16), 3) := by decide +kernel
theorem dX3_wholeRoot_21 : decode cX3_wholeRoot 21 = .ok (.lload_n 2, 1) := by decide +kernel
theorem dX3_wholeRoot_22 : decode cX3_wholeRoot 22 = .ok (.lreturn, 1) := by decide +kernel
theorem dX3_discriminant_0 : decode cX3_discriminant 0 = .ok (.lload_n 2, 1) := by decide +kernel
theorem dX3_discriminant_1 : decode cX3_discriminant 1 = .ok (.lload_n 2, 1) := by decide +kernel
theorem dX3_discriminant_2 : decode cX3_discriminant 2 = .ok (.lmul, 1) := by decide +kernel
theorem dX3_discriminant_3 : decode cX3_discriminant 3 = .ok (.ldc2_w 47, 3) := by decide +kernel
theorem dX3_discriminant_6 : decode cX3_discriminant 6 = .ok (.lload_n 0, 1) := by decide +kernel
theorem dX3_discriminant_7 : decode cX3_discriminant 7 = .ok (.lmul, 1) := by decide +kernel
theorem dX3_discriminant_8 : decode cX3_discriminant 8 = .ok (.lload 4, 2) := by decide +kernel
theorem dX3_discriminant_10 : decode cX3_discriminant 10 = .ok (.lmul, 1) := by decide +kernel
theorem dX3_discriminant_11 : decode cX3_discriminant 11 = .ok (.lsub, 1) := by decide +kernel
theorem dX3_discriminant_12 : decode cX3_discriminant 12 = .ok (.lreturn, 1) := by decide +kernel
set_option maxRecDepth 20000 in
theorem ggX3_canBeTaken_X3_in : GoodIn wsX3_canBeTaken wsX3_in := goodIn_r _ [8] (by decide +kernel) (by decide +kernel)
set_option maxRecDepth 20000 in
theorem gX3_canBeTaken_X3_in : GoodIn wsX3_canBeTaken (va_wsS RX3 53 yX3_in wsX3_in) := goodIn_app (goodIn_of _ (by decide +kernel)) ggX3_canBeTaken_X3_in
set_option maxRecDepth 20000 in
theorem ggX3_canBeTaken_X3_discriminant : GoodIn wsX3_canBeTaken wsX3_discriminant := goodIn_r _ [11, 12] (by decide +kernel) (by decide +kernel)
set_option maxRecDepth 20000 in
theorem gX3_canBeTaken_X3_discriminant : GoodIn wsX3_canBeTaken (va_wsS RX3 57 yX3_discriminant wsX3_discriminant) := goodIn_app (goodIn_of _ (by decide +kernel)) ggX3_canBeTaken_X3_discriminant
set_option maxRecDepth 20000 in
theorem ggX3_canBeTaken_X3_wholeRoot : GoodIn wsX3_canBeTaken wsX3_wholeRoot := goodIn_r _ [15] (by decide +kernel) (by decide +kernel)
set_option maxRecDepth 20000 in
theorem gX3_canBeTaken_X3_wholeRoot : GoodIn wsX3_canBeTaken (va_wsS RX3 65 yX3_wholeRoot wsX3_wholeRoot) := goodIn_app (goodIn_of _ (by decide +kernel)) ggX3_canBeTaken_X3_wholeRoot
theorem dX3_canBeTaken_0 : decode cX3_canBeTaken 0 = .ok (.lload_n 0, 1) := by decide +kernel
theorem dX3_canBeTaken_1 : decode cX3_canBeTaken 1 = .ok (.ldc2_w 49, 3) := by decide +kernel
theorem dX3_canBeTaken_4 : decode cX3_canBeTaken 4 = .ok (.ldc2_w 51, 3) := by decide +kernel
theorem dX3_canBeTaken_7 : decode cX3_canBeTaken 7 = .ok (.invokestatic 53, 3) := by decide +kernel
theorem dX3_canBeTaken_10 : decode cX3_canBeTaken 10 = .ok (.ifCond .eq 30, 3) := by decide +kernel
theorem dX3_canBeTaken_13 : decode cX3_canBeTaken 13 = .ok (.lload_n 2, 1) := by decide +kernel
theorem dX3_canBeTaken_14 : decode cX3_canBeTaken 14 = .ok (.ldc2_w 49, 3) := by decide +kernel
theorem dX3_canBeTaken_17 : decode cX3_canBeTaken 17 = .ok (.ldc2_w 51, 3) := by decide +kernel
theorem dX3_canBeTaken_20 : decode cX3_canBeTaken 20 = .ok (.invokestatic 53, 3) := by decide +kernel
theorem dX3_canBeTaken_23 : decode cX3_canBeTaken 23 = .ok (.ifCond .eq 17, 3) := by decide +kernel
theorem dX3_canBeTaken_26 : decode cX3_canBeTaken 26 = .ok (.lload 4, 2) := by decide +kernel
theorem dX3_canBeTaken_28 : decode cX3_canBeTaken 28 = .ok (.ldc2_w 49, 3) := by decide +kernel
theorem dX3_canBeTaken_31 : decode cX3_canBeTaken 31 = .ok (.ldc2_w 51, 3) := by decide +kernel
theorem dX3_canBeTaken_34 : decode cX3_canBeTaken 34 = .ok (.invokestatic 53, 3) := by decide +kernel
theorem dX3_canBeTaken_37 : decode cX3_canBeTaken 37 = .ok (.ifCond .ne 5, 3) := by decide +kernel
theorem dX3_canBeTaken_40 : decode cX3_canBeTaken 40 = .ok (.iconst 0, 1) := by decide +kernel
theorem dX3_canBeTaken_41 : decode cX3_canBeTaken 41 = .ok (.ireturn, 1) := by decide +kernel
theorem dX3_canBeTaken_42 : decode cX3_canBeTaken 42 = .ok (.lload_n 0, 1) := by decide +kernel
theorem dX3_canBeTaken_43 : decode cX3_canBeTaken 43 = .ok (.lload_n 2, 1) := by decide +kernel
theorem dX3_canBeTaken_44 : decode cX3_canBeTaken 44 = .ok (.lload 4, 2) := by decide +kernel
theorem dX3_canBeTaken_46 : decode cX3_canBeTaken 46 = .ok (.invokestatic 57, 3) := by decide +kernel
theorem dX3_canBeTaken_49 : decode cX3_canBeTaken 49 = .ok (.lstore 6, 2) := by decide +kernel
theorem dX3_canBeTaken_51 : decode cX3_canBeTaken 51 = .ok (.lload 6, 2) := by decide +kernel
theorem dX3_canBeTaken_53 : decode cX3_canBeTaken 53 = .ok (.ldc2_w 61, 3) := by decide +kernel
theorem dX3_canBeTaken_56 : decode cX3_canBeTaken 56 = .ok (.ldc2_w 63, 3) := by decide +kernel
theorem dX3_canBeTaken_59 : decode cX3_canBeTaken 59 = .ok (.invokestatic 53, 3) := by decide +kernel
theorem dX3_canBeTaken_62 : decode cX3_canBeTaken 62 = .ok (.ifCond .ne 5, 3) := by decide +kernel
theorem dX3_canBeTaken_65 : decode cX3_canBeTaken 65 = .ok (.iconst 0, 1) := by decide +kernel
theorem dX3_canBeTaken_66 : decode cX3_canBeTaken 66 = .ok (.ireturn, 1) := by decide +kernel
theorem dX3_canBeTaken_67 : decode cX3_canBeTaken 67 = .ok (.lload 6, 2) := by decide +kernel
theorem dX3_canBeTaken_69 : decode cX3_canBeTaken 69 = .ok (.lconst 0, 1) := by decide +kernel
theorem dX3_canBeTaken_70 : decode cX3_canBeTaken 70 = .ok (.lcmp, 1) := by decide +kernel
theorem dX3_canBeTaken_71 : decode cX3_canBeTaken 71 = .ok (.ifCond .ge 17, 3) := by decide +kernel
theorem dX3_canBeTaken_74 : decode cX3_canBeTaken 74 = .ok (.lload_n 0, 1) := by decide +kernel
theorem dX3_canBeTaken_75 : decode cX3_canBeTaken 75 = .ok (.lconst 0, 1) := by decide +kernel
theorem dX3_canBeTaken_76 : decode cX3_canBeTaken 76 = .ok (.lcmp, 1) := by decide +kernel
theorem dX3_canBeTaken_77 : decode cX3_canBeTaken 77 = .ok (.ifCond .le 7, 3) := by decide +kernel
theorem dX3_canBeTaken_80 : decode cX3_canBeTaken 80 = .ok (.iconst 1, 1) := by decide +kernel
theorem dX3_canBeTaken_81 : decode cX3_canBeTaken 81 = .ok (.goto 29, 3) := by decide +kernel
theorem dX3_canBeTaken_84 : decode cX3_canBeTaken 84 = .ok (.iconst 0, 1) := by decide +kernel
theorem dX3_canBeTaken_85 : decode cX3_canBeTaken 85 = .ok (.goto 25, 3) := by decide +kernel
theorem dX3_canBeTaken_88 : decode cX3_canBeTaken 88 = .ok (.lload 6, 2) := by decide +kernel
theorem dX3_canBeTaken_90 : decode cX3_canBeTaken 90 = .ok (.invokestatic 65, 3) := by decide +kernel
theorem dX3_canBeTaken_93 : decode cX3_canBeTaken 93 = .ok (.lload 6, 2) := by decide +kernel
theorem dX3_canBeTaken_95 : decode cX3_canBeTaken 95 = .ok (.invokestatic 65, 3) := by decide +kernel
theorem dX3_canBeTaken_98 : decode cX3_canBeTaken 98 = .ok (.lmul, 1) := by decide +kernel
theorem dX3_canBeTaken_99 : decode cX3_canBeTaken 99 = .ok (.lload 6, 2) := by decide +kernel
theorem dX3_canBeTaken_101 : decode cX3_canBeTaken 101 = .ok (.lcmp, 1) := by decide +kernel
theorem dX3_canBeTaken_102 : decode cX3_canBeTaken 102 = .ok (.ifCond .eq 7, 3) := by decide +kernel
theorem dX3_canBeTaken_105 : decode cX3_canBeTaken 105 = .ok (.iconst 1, 1) := by decide +kernel
theorem dX3_canBeTaken_106 : decode cX3_canBeTaken 106 = .ok (.goto 4, 3) := by decide +kernel
theorem dX3_canBeTaken_109 : decode cX3_canBeTaken 109 = .ok (.iconst 0, 1) := by decide +kernel
theorem dX3_canBeTaken_110 : decode cX3_canBeTaken 110 = .ok (.ireturn, 1) := by decide +kernel
theorem dX3_size_0 : decode cX3_size 0 = .ok (.lload_n 0, 1) := by decide +kernel
theorem dX3_size_1 : decode cX3_size 1 = .ok (.lconst 0, 1) := by decide +kernel
theorem dX3_size_2 : decode cX3_size 2 = .ok (.lcmp, 1) := by decide +kernel
theorem dX3_size_3 : decode cX3_size 3 = .ok (.ifCond .ge 8, 3) := by decide +kernel
theorem dX3_size_6 : decode cX3_size 6 = .ok (.lload_n 0, 1) := by decide +kernel
theorem dX3_size_7 : decode cX3_size 7 = .ok (.lneg, 1) := by decide +kernel
theorem dX3_size_8 : decode cX3_size 8 = .ok (.goto 4, 3) := by decide +kernel
theorem dX3_size_11 : decode cX3_size 11 = .ok (.lload_n 0, 1) := by decide +kernel
theorem dX3_size_12 : decode cX3_size 12 = .ok (.lreturn, 1) := by decide +kernel
theorem dX3_begin_0 : decode cX3_begin 0 = .ok (.aload_n 0, 1) := by decide +kernel
theorem dX3_begin_1 : decode cX3_begin 1 = .ok (.lload_n 1, 1) := by decide +kernel
theorem dX3_begin_2 : decode cX3_begin 2 = .ok (.putfield 69, 3) := by decide +kernel
theorem dX3_begin_5 : decode cX3_begin 5 = .ok (.aload_n 0, 1) := by decide +kernel
theorem dX3_begin_6 : decode cX3_begin 6 = .ok (.lload_n 3, 1) := by decide +kernel
theorem dX3_begin_7 : decode cX3_begin 7 = .ok (.putfield 72, 3) := by decide +kernel
theorem dX3_begin_10 : decode cX3_begin 10 = .ok (.aload_n 0, 1) := by decide +kernel
theorem dX3_begin_11 : decode cX3_begin 11 = .ok (.lload 5, 2) := by decide +kernel
theorem dX3_begin_13 : decode cX3_begin 13 = .ok (.putfield 75, 3) := by decide +kernel
theorem dX3_begin_16 : decode cX3_begin 16 = .ok (.return_, 1) := by decide +kernel
set_option maxRecDepth 20000 in
theorem ggX3_isReduced_X3_size : GoodIn wsX3_isReduced wsX3_size := goodIn_r _ [8] (by decide +kernel) (by decide +kernel)
set_option maxRecDepth 20000 in
theorem gX3_isReduced_X3_size : GoodIn wsX3_isReduced (va_wsS RX3 78 yX3_size wsX3_size) := goodIn_app (goodIn_of _ (by decide +kernel)) ggX3_isReduced_X3_size
theorem dX3_isReduced_0 : decode cX3_isReduced 0 = .ok (.lload_n 1, 1) := by decide +kernel
theorem dX3_isReduced_1 : decode cX3_isReduced 1 = .ok (.lconst 0, 1) := by decide +kernel
theorem dX3_isReduced_2 : decode cX3_isReduced 2 = .ok (.lcmp, 1) := by decide +kernel
theorem dX3_isReduced_3 : decode cX3_isReduced 3 = .ok (.ifCond .ge 70, 3) := by decide +kernel
theorem dX3_isReduced_6 : decode cX3_isReduced 6 = .ok (.aload_n 0, 1) := by decide +kernel
theorem dX3_isReduced_7 : decode cX3_isReduced 7 = .ok (.getfield 72, 3) := by decide +kernel
theorem dX3_isReduced_10 : decode cX3_isReduced 10 = .ok (.invokestatic 78, 3) := by decide +kernel
theorem dX3_isReduced_13 : decode cX3_isReduced 13 = .ok (.aload_n 0, 1) := by decide +kernel
theorem dX3_isReduced_14 : decode cX3_isReduced 14 = .ok (.getfield 69, 3) := by decide +kernel
theorem dX3_isReduced_17 : decode cX3_isReduced 17 = .ok (.lcmp, 1) := by decide +kernel
theorem dX3_isReduced_18 : decode cX3_isReduced 18 = .ok (.ifCond .gt 53, 3) := by decide +kernel
theorem dX3_isReduced_21 : decode cX3_isReduced 21 = .ok (.aload_n 0, 1) := by decide +kernel
theorem dX3_isReduced_22 : decode cX3_isReduced 22 = .ok (.getfield 69, 3) := by decide +kernel
theorem dX3_isReduced_25 : decode cX3_isReduced 25 = .ok (.aload_n 0, 1) := by decide +kernel
theorem dX3_isReduced_26 : decode cX3_isReduced 26 = .ok (.getfield 75, 3) := by decide +kernel
theorem dX3_isReduced_29 : decode cX3_isReduced 29 = .ok (.lcmp, 1) := by decide +kernel
theorem dX3_isReduced_30 : decode cX3_isReduced 30 = .ok (.ifCond .gt 41, 3) := by decide +kernel
theorem dX3_isReduced_33 : decode cX3_isReduced 33 = .ok (.aload_n 0, 1) := by decide +kernel
theorem dX3_isReduced_34 : decode cX3_isReduced 34 = .ok (.getfield 72, 3) := by decide +kernel
theorem dX3_isReduced_37 : decode cX3_isReduced 37 = .ok (.lconst 0, 1) := by decide +kernel
theorem dX3_isReduced_38 : decode cX3_isReduced 38 = .ok (.lcmp, 1) := by decide +kernel
theorem dX3_isReduced_39 : decode cX3_isReduced 39 = .ok (.ifCond .ge 28, 3) := by decide +kernel
theorem dX3_isReduced_42 : decode cX3_isReduced 42 = .ok (.aload_n 0, 1) := by decide +kernel
theorem dX3_isReduced_43 : decode cX3_isReduced 43 = .ok (.getfield 72, 3) := by decide +kernel
theorem dX3_isReduced_46 : decode cX3_isReduced 46 = .ok (.lneg, 1) := by decide +kernel
theorem dX3_isReduced_47 : decode cX3_isReduced 47 = .ok (.aload_n 0, 1) := by decide +kernel
theorem dX3_isReduced_48 : decode cX3_isReduced 48 = .ok (.getfield 69, 3) := by decide +kernel
theorem dX3_isReduced_51 : decode cX3_isReduced 51 = .ok (.lcmp, 1) := by decide +kernel
theorem dX3_isReduced_52 : decode cX3_isReduced 52 = .ok (.ifCond .ge 19, 3) := by decide +kernel
theorem dX3_isReduced_55 : decode cX3_isReduced 55 = .ok (.aload_n 0, 1) := by decide +kernel
theorem dX3_isReduced_56 : decode cX3_isReduced 56 = .ok (.getfield 69, 3) := by decide +kernel
theorem dX3_isReduced_59 : decode cX3_isReduced 59 = .ok (.aload_n 0, 1) := by decide +kernel
theorem dX3_isReduced_60 : decode cX3_isReduced 60 = .ok (.getfield 75, 3) := by decide +kernel
theorem dX3_isReduced_63 : decode cX3_isReduced 63 = .ok (.lcmp, 1) := by decide +kernel
theorem dX3_isReduced_64 : decode cX3_isReduced 64 = .ok (.ifCond .ge 7, 3) := by decide +kernel
theorem dX3_isReduced_67 : decode cX3_isReduced 67 = .ok (.iconst 1, 1) := by decide +kernel
theorem dX3_isReduced_68 : decode cX3_isReduced 68 = .ok (.goto 4, 3) := by decide +kernel
theorem dX3_isReduced_71 : decode cX3_isReduced 71 = .ok (.iconst 0, 1) := by decide +kernel
theorem dX3_isReduced_72 : decode cX3_isReduced 72 = .ok (.ireturn, 1) := by decide +kernel
theorem dX3_isReduced_73 : decode cX3_isReduced 73 = .ok (.aload_n 0, 1) := by decide +kernel
theorem dX3_isReduced_74 : decode cX3_isReduced 74 = .ok (.getfield 72, 3) := by decide +kernel
theorem dX3_isReduced_77 : decode cX3_isReduced 77 = .ok (.lconst 1, 1) := by decide +kernel
theorem dX3_isReduced_78 : decode cX3_isReduced 78 = .ok (.lcmp, 1) := by decide +kernel
theorem dX3_isReduced_79 : decode cX3_isReduced 79 = .ok (.ifCond .lt 58, 3) := by decide +kernel
theorem dX3_isReduced_82 : decode cX3_isReduced 82 = .ok (.aload_n 0, 1) := by decide +kernel
theorem dX3_isReduced_83 : decode cX3_isReduced 83 = .ok (.getfield 72, 3) := by decide +kernel
theorem dX3_isReduced_86 : decode cX3_isReduced 86 = .ok (.lload_n 3, 1) := by decide +kernel
theorem dX3_isReduced_87 : decode cX3_isReduced 87 = .ok (.lcmp, 1) := by decide +kernel
theorem dX3_isReduced_88 : decode cX3_isReduced 88 = .ok (.ifCond .gt 49, 3) := by decide +kernel
theorem dX3_isReduced_91 : decode cX3_isReduced 91 = .ok (.ldc2_w 81, 3) := by decide +kernel
theorem dX3_isReduced_94 : decode cX3_isReduced 94 = .ok (.aload_n 0, 1) := by decide +kernel
theorem dX3_isReduced_95 : decode cX3_isReduced 95 = .ok (.getfield 69, 3) := by decide +kernel
theorem dX3_isReduced_98 : decode cX3_isReduced 98 = .ok (.invokestatic 78, 3) := by decide +kernel
theorem dX3_isReduced_101 : decode cX3_isReduced 101 = .ok (.lmul, 1) := by decide +kernel
theorem dX3_isReduced_102 : decode cX3_isReduced 102 = .ok (.aload_n 0, 1) := by decide +kernel
theorem dX3_isReduced_103 : decode cX3_isReduced 103 = .ok (.getfield 72, 3) := by decide +kernel
theorem dX3_isReduced_106 : decode cX3_isReduced 106 = .ok (.ladd, 1) := by decide +kernel
theorem dX3_isReduced_107 : decode cX3_isReduced 107 = .ok (.lload_n 3, 1) := by decide +kernel
theorem dX3_isReduced_108 : decode cX3_isReduced 108 = .ok (.lcmp, 1) := by decide +kernel
theorem dX3_isReduced_109 : decode cX3_isReduced 109 = .ok (.ifCond .le 28, 3) := by decide +kernel
theorem dX3_isReduced_112 : decode cX3_isReduced 112 = .ok (.ldc2_w 81, 3) := by decide +kernel
theorem dX3_isReduced_115 : decode cX3_isReduced 115 = .ok (.aload_n 0, 1) := by decide +kernel
theorem dX3_isReduced_116 : decode cX3_isReduced 116 = .ok (.getfield 69, 3) := by decide +kernel
theorem dX3_isReduced_119 : decode cX3_isReduced 119 = .ok (.invokestatic 78, 3) := by decide +kernel
theorem dX3_isReduced_122 : decode cX3_isReduced 122 = .ok (.lmul, 1) := by decide +kernel
theorem dX3_isReduced_123 : decode cX3_isReduced 123 = .ok (.aload_n 0, 1) := by decide +kernel
theorem dX3_isReduced_124 : decode cX3_isReduced 124 = .ok (.getfield 72, 3) := by decide +kernel
theorem dX3_isReduced_127 : decode cX3_isReduced 127 = .ok (.lsub, 1) := by decide +kernel
theorem dX3_isReduced_128 : decode cX3_isReduced 128 = .ok (.lload_n 3, 1) := by decide +kernel
theorem dX3_isReduced_129 : decode cX3_isReduced 129 = .ok (.lcmp, 1) := by decide +kernel
theorem dX3_isReduced_130 : decode cX3_isReduced 130 = .ok (.ifCond .gt 7, 3) := by decide +kernel
theorem dX3_isReduced_133 : decode cX3_isReduced 133 = .ok (.iconst 1, 1) := by decide +kernel
theorem dX3_isReduced_134 : decode cX3_isReduced 134 = .ok (.goto 4, 3) := by decide +kernel
theorem dX3_isReduced_137 : decode cX3_isReduced 137 = .ok (.iconst 0, 1) := by decide +kernel
theorem dX3_isReduced_138 : decode cX3_isReduced 138 = .ok (.ireturn, 1) := by decide +kernel
set_option maxRecDepth 20000 in
theorem ggX3_step_X3_size : GoodIn wsX3_step wsX3_size := goodIn_r _ [10] (by decide +kernel) (by decide +kernel)
set_option maxRecDepth 20000 in
theorem gX3_step_X3_size : GoodIn wsX3_step (va_wsS RX3 78 yX3_size wsX3_size) := goodIn_app (goodIn_of _ (by decide +kernel)) ggX3_step_X3_size
theorem dX3_step_0 : decode cX3_step 0 = .ok (.ldc2_w 81, 3) := by decide +kernel
theorem dX3_step_3 : decode cX3_step 3 = .ok (.aload_n 0, 1) := by decide +kernel
theorem dX3_step_4 : decode cX3_step 4 = .ok (.getfield 75, 3) := by decide +kernel
theorem dX3_step_7 : decode cX3_step 7 = .ok (.invokestatic 78, 3) := by decide +kernel
theorem dX3_step_10 : decode cX3_step 10 = .ok (.lmul, 1) := by decide +kernel
theorem dX3_step_11 : decode cX3_step 11 = .ok (.lstore 5, 2) := by decide +kernel
theorem dX3_step_13 : decode cX3_step 13 = .ok (.lload_n 1, 1) := by decide +kernel
theorem dX3_step_14 : decode cX3_step 14 = .ok (.lconst 0, 1) := by decide +kernel
theorem dX3_step_15 : decode cX3_step 15 = .ok (.lcmp, 1) := by decide +kernel
theorem dX3_step_16 : decode cX3_step 16 = .ok (.ifCond .lt 15, 3) := by decide +kernel
theorem dX3_step_19 : decode cX3_step 19 = .ok (.aload_n 0, 1) := by decide +kernel
theorem dX3_step_20 : decode cX3_step 20 = .ok (.getfield 75, 3) := by decide +kernel
theorem dX3_step_23 : decode cX3_step 23 = .ok (.invokestatic 78, 3) := by decide +kernel
theorem dX3_step_26 : decode cX3_step 26 = .ok (.lload_n 3, 1) := by decide +kernel
theorem dX3_step_27 : decode cX3_step 27 = .ok (.lcmp, 1) := by decide +kernel
theorem dX3_step_28 : decode cX3_step 28 = .ok (.ifCond .le 13, 3) := by decide +kernel
theorem dX3_step_31 : decode cX3_step 31 = .ok (.aload_n 0, 1) := by decide +kernel
theorem dX3_step_32 : decode cX3_step 32 = .ok (.getfield 75, 3) := by decide +kernel
theorem dX3_step_35 : decode cX3_step 35 = .ok (.invokestatic 78, 3) := by decide +kernel
theorem dX3_step_38 : decode cX3_step 38 = .ok (.goto 4, 3) := by decide +kernel
theorem dX3_step_41 : decode cX3_step 41 = .ok (.lload_n 3, 1) := by decide +kernel
theorem dX3_step_42 : decode cX3_step 42 = .ok (.lstore 7, 2) := by decide +kernel
theorem dX3_step_44 : decode cX3_step 44 = .ok (.lload 7, 2) := by decide +kernel
theorem dX3_step_46 : decode cX3_step 46 = .ok (.aload_n 0, 1) := by decide +kernel
theorem dX3_step_47 : decode cX3_step 47 = .ok (.getfield 72, 3) := by decide +kernel
theorem dX3_step_50 : decode cX3_step 50 = .ok (.ladd, 1) := by decide +kernel
theorem dX3_step_51 : decode cX3_step 51 = .ok (.lload 5, 2) := by decide +kernel
theorem dX3_step_53 : decode cX3_step 53 = .ok (.lrem, 1) := by decide +kernel
theorem dX3_step_54 : decode cX3_step 54 = .ok (.lstore 9, 2) := by decide +kernel
theorem dX3_step_56 : decode cX3_step 56 = .ok (.lload 9, 2) := by decide +kernel
theorem dX3_step_58 : decode cX3_step 58 = .ok (.lconst 0, 1) := by decide +kernel
theorem dX3_step_59 : decode cX3_step 59 = .ok (.lcmp, 1) := by decide +kernel
theorem dX3_step_60 : decode cX3_step 60 = .ok (.ifCond .ge 10, 3) := by decide +kernel
theorem dX3_step_63 : decode cX3_step 63 = .ok (.lload 9, 2) := by decide +kernel
theorem dX3_step_65 : decode cX3_step 65 = .ok (.lload 5, 2) := by decide +kernel
theorem dX3_step_67 : decode cX3_step 67 = .ok (.ladd, 1) := by decide +kernel
theorem dX3_step_68 : decode cX3_step 68 = .ok (.lstore 9, 2) := by decide +kernel
theorem dX3_step_70 : decode cX3_step 70 = .ok (.lload 7, 2) := by decide +kernel
theorem dX3_step_72 : decode cX3_step 72 = .ok (.lload 9, 2) := by decide +kernel
theorem dX3_step_74 : decode cX3_step 74 = .ok (.lsub, 1) := by decide +kernel
theorem dX3_step_75 : decode cX3_step 75 = .ok (.lstore 11, 2) := by decide +kernel
theorem dX3_step_77 : decode cX3_step 77 = .ok (.aload_n 0, 1) := by decide +kernel
theorem dX3_step_78 : decode cX3_step 78 = .ok (.aload_n 0, 1) := by decide +kernel
theorem dX3_step_79 : decode cX3_step 79 = .ok (.getfield 72, 3) := by decide +kernel
theorem dX3_step_82 : decode cX3_step 82 = .ok (.lload 11, 2) := by decide +kernel
theorem dX3_step_84 : decode cX3_step 84 = .ok (.ladd, 1) := by decide +kernel
theorem dX3_step_85 : decode cX3_step 85 = .ok (.ldc2_w 81, 3) := by decide +kernel
theorem dX3_step_88 : decode cX3_step 88 = .ok (.aload_n 0, 1) := by decide +kernel
theorem dX3_step_89 : decode cX3_step 89 = .ok (.getfield 75, 3) := by decide +kernel
theorem dX3_step_92 : decode cX3_step 92 = .ok (.lmul, 1) := by decide +kernel
theorem dX3_step_93 : decode cX3_step 93 = .ok (.ldiv, 1) := by decide +kernel
theorem dX3_step_94 : decode cX3_step 94 = .ok (.putfield 83, 3) := by decide +kernel
theorem dX3_step_97 : decode cX3_step 97 = .ok (.lload 11, 2) := by decide +kernel
theorem dX3_step_99 : decode cX3_step 99 = .ok (.lload 11, 2) := by decide +kernel
theorem dX3_step_101 : decode cX3_step 101 = .ok (.lmul, 1) := by decide +kernel
theorem dX3_step_102 : decode cX3_step 102 = .ok (.lload_n 1, 1) := by decide +kernel
theorem dX3_step_103 : decode cX3_step 103 = .ok (.lsub, 1) := by decide +kernel
theorem dX3_step_104 : decode cX3_step 104 = .ok (.ldc2_w 47, 3) := by decide +kernel
theorem dX3_step_107 : decode cX3_step 107 = .ok (.aload_n 0, 1) := by decide +kernel
theorem dX3_step_108 : decode cX3_step 108 = .ok (.getfield 75, 3) := by decide +kernel
theorem dX3_step_111 : decode cX3_step 111 = .ok (.lmul, 1) := by decide +kernel
theorem dX3_step_112 : decode cX3_step 112 = .ok (.ldiv, 1) := by decide +kernel
theorem dX3_step_113 : decode cX3_step 113 = .ok (.lstore 13, 2) := by decide +kernel
theorem dX3_step_115 : decode cX3_step 115 = .ok (.aload_n 0, 1) := by decide +kernel
theorem dX3_step_116 : decode cX3_step 116 = .ok (.aload_n 0, 1) := by decide +kernel
theorem dX3_step_117 : decode cX3_step 117 = .ok (.getfield 75, 3) := by decide +kernel
theorem dX3_step_120 : decode cX3_step 120 = .ok (.putfield 69, 3) := by decide +kernel
theorem dX3_step_123 : decode cX3_step 123 = .ok (.aload_n 0, 1) := by decide +kernel
theorem dX3_step_124 : decode cX3_step 124 = .ok (.lload 11, 2) := by decide +kernel
theorem dX3_step_126 : decode cX3_step 126 = .ok (.putfield 72, 3) := by decide +kernel
theorem dX3_step_129 : decode cX3_step 129 = .ok (.aload_n 0, 1) := by decide +kernel
theorem dX3_step_130 : decode cX3_step 130 = .ok (.lload 13, 2) := by decide +kernel
theorem dX3_step_132 : decode cX3_step 132 = .ok (.putfield 75, 3) := by decide +kernel
theorem dX3_step_135 : decode cX3_step 135 = .ok (.return_, 1) := by decide +kernel
set_option maxRecDepth 20000 in
theorem ggX3_toReduced_X3_isReduced : GoodIn wsX3_toReduced wsX3_isReduced := goodIn_r _ [5, 6, 7, 8, 9, 10, 11, 4, 12, 19, 20, 21, 22, 23, 24, 25, 26, 27, 28, 29, 30, 31, 32, 33] (by decide +kernel) (by decide +kernel)
set_option maxRecDepth 20000 in
theorem gX3_toReduced_X3_isReduced : GoodIn wsX3_toReduced (wsV RX3 86 RX3 yX3_isReduced wsX3_isReduced) := goodIn_app (goodIn_of _ (by decide +kernel)) ggX3_toReduced_X3_isReduced
set_option maxRecDepth 20000 in
theorem ggX3_toReduced_X3_step : GoodIn wsX3_toReduced wsX3_step := goodIn_r _ [16, 9, 8, 6, 17, 18, 7, 10, 11, 4, 12, 19, 20, 21, 22, 23, 24, 25, 26, 27, 28, 29, 30, 31, 32, 33] (by decide +kernel) (by decide +kernel)
set_option maxRecDepth 20000 in
theorem gX3_toReduced_X3_step : GoodIn wsX3_toReduced (wsV RX3 90 RX3 yX3_step wsX3_step) := goodIn_app (goodIn_of _ (by decide +kernel)) ggX3_toReduced_X3_step
theorem dX3_toReduced_0 : decode cX3_toReduced 0 = .ok (.aload_n 0, 1) := by decide +kernel
theorem dX3_toReduced_1 : decode cX3_toReduced 1 = .ok (.lload_n 1, 1) := by decide +kernel
theorem dX3_toReduced_2 : decode cX3_toReduced 2 = .ok (.lload_n 3, 1) := by decide +kernel
theorem dX3_toReduced_3 : decode cX3_toReduced 3 = .ok (.invokevirtual 86, 3) := by decide +kernel
theorem dX3_toReduced_6 : decode cX3_toReduced 6 = .ok (.ifCond .ne 12, 3) := by decide +kernel
theorem dX3_toReduced_9 : decode cX3_toReduced 9 = .ok (.aload_n 0, 1) := by decide +kernel
theorem dX3_toReduced_10 : decode cX3_toReduced 10 = .ok (.lload_n 1, 1) := by decide +kernel
theorem dX3_toReduced_11 : decode cX3_toReduced 11 = .ok (.lload_n 3, 1) := by decide +kernel
theorem dX3_toReduced_12 : decode cX3_toReduced 12 = .ok (.invokevirtual 90, 3) := by decide +kernel
theorem dX3_toReduced_15 : decode cX3_toReduced 15 = .ok (.goto (-15), 3) := by decide +kernel
theorem dX3_toReduced_18 : decode cX3_toReduced 18 = .ok (.return_, 1) := by decide +kernel
theorem dX3_isName_0 : decode cX3_isName 0 = .ok (.aload_n 0, 1) := by decide +kernel
theorem dX3_isName_1 : decode cX3_isName 1 = .ok (.getfield 69, 3) := by decide +kernel
theorem dX3_isName_4 : decode cX3_isName 4 = .ok (.aload_n 0, 1) := by decide +kernel
theorem dX3_isName_5 : decode cX3_isName 5 = .ok (.getfield 26, 3) := by decide +kernel
theorem dX3_isName_8 : decode cX3_isName 8 = .ok (.lcmp, 1) := by decide +kernel
theorem dX3_isName_9 : decode cX3_isName 9 = .ok (.ifCond .ne 19, 3) := by decide +kernel
theorem dX3_isName_12 : decode cX3_isName 12 = .ok (.aload_n 0, 1) := by decide +kernel
theorem dX3_isName_13 : decode cX3_isName 13 = .ok (.getfield 72, 3) := by decide +kernel
theorem dX3_isName_16 : decode cX3_isName 16 = .ok (.aload_n 0, 1) := by decide +kernel
theorem dX3_isName_17 : decode cX3_isName 17 = .ok (.getfield 94, 3) := by decide +kernel
theorem dX3_isName_20 : decode cX3_isName 20 = .ok (.lcmp, 1) := by decide +kernel
theorem dX3_isName_21 : decode cX3_isName 21 = .ok (.ifCond .ne 7, 3) := by decide +kernel
