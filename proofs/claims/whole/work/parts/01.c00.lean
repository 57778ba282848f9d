theorem dX0_init_0 : decode cX0_init 0 = .ok (.aload_n 0, 1) := by decide +kernel
theorem dX0_init_1 : decode cX0_init 1 = .ok (.invokespecial 3, 3) := by decide +kernel
theorem dX0_init_4 : decode cX0_init 4 = .ok (.return_, 1) := by decide +kernel
set_option maxRecDepth 20000 in
theorem ggX0_put_X2_discriminantOf : GoodIn wsX0_put wsX2_discriminantOf := goodIn_r _ [8, 9] (by decide +kernel) (by decide +kernel)
set_option maxRecDepth 20000 in
theorem gX0_put_X2_discriminantOf_n21 : GoodIn wsX0_put (wsX2_discriminantOf) := ggX0_put_X2_discriminantOf
set_option maxRecDepth 20000 in
theorem ggX0_put_X2_wholeRoot : GoodIn wsX0_put wsX2_wholeRoot := goodIn_r _ [11, 12] (by decide +kernel) (by decide +kernel)
set_option maxRecDepth 20000 in
theorem gX0_put_X2_wholeRoot_n28 : GoodIn wsX0_put (wsX2_wholeRoot) := ggX0_put_X2_wholeRoot
theorem dX0_put_0 : decode cX0_put 0 = .ok (.aload_n 0, 1) := by decide +kernel
theorem dX0_put_1 : decode cX0_put 1 = .ok (.lload_n 1, 1) := by decide +kernel
theorem dX0_put_2 : decode cX0_put 2 = .ok (.putfield 9, 3) := by decide +kernel
theorem dX0_put_5 : decode cX0_put 5 = .ok (.aload_n 0, 1) := by decide +kernel
theorem dX0_put_6 : decode cX0_put 6 = .ok (.lload_n 3, 1) := by decide +kernel
theorem dX0_put_7 : decode cX0_put 7 = .ok (.putfield 15, 3) := by decide +kernel
theorem dX0_put_10 : decode cX0_put 10 = .ok (.aload_n 0, 1) := by decide +kernel
theorem dX0_put_11 : decode cX0_put 11 = .ok (.lload 5, 2) := by decide +kernel
theorem dX0_put_13 : decode cX0_put 13 = .ok (.putfield 18, 3) := by decide +kernel
theorem dX0_put_16 : decode cX0_put 16 = .ok (.aload_n 0, 1) := by decide +kernel
theorem dX0_put_17 : decode cX0_put 17 = .ok (.lload_n 1, 1) := by decide +kernel
theorem dX0_put_18 : decode cX0_put 18 = .ok (.lload_n 3, 1) := by decide +kernel
theorem dX0_put_19 : decode cX0_put 19 = .ok (.lload 5, 2) := by decide +kernel
theorem dX0_put_21 : decode cX0_put 21 = .ok (.invokestatic 21, 3) := by decide +kernel
theorem dX0_put_24 : decode cX0_put 24 = .ok (.putfield 25, 3) := by decide +kernel
theorem dX0_put_27 : decode cX0_put 27 = .ok (.aload_n 0, 1) := by decide +kernel
theorem dX0_put_28 : decode cX0_put 28 = .ok (.aload_n 0, 1) := by decide +kernel
theorem dX0_put_29 : decode cX0_put 29 = .ok (.getfield 25, 3) := by decide +kernel
theorem dX0_put_32 : decode cX0_put 32 = .ok (.invokestatic 28, 3) := by decide +kernel
theorem dX0_put_35 : decode cX0_put 35 = .ok (.putfield 32, 3) := by decide +kernel
theorem dX0_put_38 : decode cX0_put 38 = .ok (.return_, 1) := by decide +kernel
theorem dX0_copy_0 : decode cX0_copy 0 = .ok (.aload_n 0, 1) := by decide +kernel
theorem dX0_copy_1 : decode cX0_copy 1 = .ok (.aload_n 1, 1) := by decide +kernel
theorem dX0_copy_2 : decode cX0_copy 2 = .ok (.getfield 9, 3) := by decide +kernel
theorem dX0_copy_5 : decode cX0_copy 5 = .ok (.putfield 9, 3) := by decide +kernel
theorem dX0_copy_8 : decode cX0_copy 8 = .ok (.aload_n 0, 1) := by decide +kernel
theorem dX0_copy_9 : decode cX0_copy 9 = .ok (.aload_n 1, 1) := by decide +kernel
theorem dX0_copy_10 : decode cX0_copy 10 = .ok (.getfield 15, 3) := by decide +kernel
theorem dX0_copy_13 : decode cX0_copy 13 = .ok (.putfield 15, 3) := by decide +kernel
theorem dX0_copy_16 : decode cX0_copy 16 = .ok (.aload_n 0, 1) := by decide +kernel
theorem dX0_copy_17 : decode cX0_copy 17 = .ok (.aload_n 1, 1) := by decide +kernel
theorem dX0_copy_18 : decode cX0_copy 18 = .ok (.getfield 18, 3) := by decide +kernel
theorem dX0_copy_21 : decode cX0_copy 21 = .ok (.putfield 18, 3) := by decide +kernel
theorem dX0_copy_24 : decode cX0_copy 24 = .ok (.aload_n 0, 1) := by decide +kernel
theorem dX0_copy_25 : decode cX0_copy 25 = .ok (.aload_n 1, 1) := by decide +kernel
theorem dX0_copy_26 : decode cX0_copy 26 = .ok (.getfield 25, 3) := by decide +kernel
theorem dX0_copy_29 : decode cX0_copy 29 = .ok (.putfield 25, 3) := by decide +kernel
theorem dX0_copy_32 : decode cX0_copy 32 = .ok (.aload_n 0, 1) := by decide +kernel
theorem dX0_copy_33 : decode cX0_copy 33 = .ok (.aload_n 1, 1) := by decide +kernel
theorem dX0_copy_34 : decode cX0_copy 34 = .ok (.getfield 32, 3) := by decide +kernel
theorem dX0_copy_37 : decode cX0_copy 37 = .ok (.putfield 32, 3) := by decide +kernel
theorem dX0_copy_40 : decode cX0_copy 40 = .ok (.return_, 1) := by decide +kernel
theorem dX0_isSame_0 : decode cX0_isSame 0 = .ok (.aload_n 0, 1) := by decide +kernel
theorem dX0_isSame_1 : decode cX0_isSame 1 = .ok (.getfield 9, 3) := by decide +kernel
theorem dX0_isSame_4 : decode cX0_isSame 4 = .ok (.aload_n 1, 1) := by decide +kernel
theorem dX0_isSame_5 : decode cX0_isSame 5 = .ok (.getfield 9, 3) := by decide +kernel
theorem dX0_isSame_8 : decode cX0_isSame 8 = .ok (.lcmp, 1) := by decide +kernel
theorem dX0_isSame_9 : decode cX0_isSame 9 = .ok (.ifCond .ne 31, 3) := by decide +kernel
theorem dX0_isSame_12 : decode cX0_isSame 12 = .ok (.aload_n 0, 1) := by decide +kernel
theorem dX0_isSame_13 : decode cX0_isSame 13 = .ok (.getfield 15, 3) := by decide +kernel
theorem dX0_isSame_16 : decode cX0_isSame 16 = .ok (.aload_n 1, 1) := by decide +kernel
theorem dX0_isSame_17 : decode cX0_isSame 17 = .ok (.getfield 15, 3) := by decide +kernel
theorem dX0_isSame_20 : decode cX0_isSame 20 = .ok (.lcmp, 1) := by decide +kernel
theorem dX0_isSame_21 : decode cX0_isSame 21 = .ok (.ifCond .ne 19, 3) := by decide +kernel
theorem dX0_isSame_24 : decode cX0_isSame 24 = .ok (.aload_n 0, 1) := by decide +kernel
theorem dX0_isSame_25 : decode cX0_isSame 25 = .ok (.getfield 18, 3) := by decide +kernel
theorem dX0_isSame_28 : decode cX0_isSame 28 = .ok (.aload_n 1, 1) := by decide +kernel
theorem dX0_isSame_29 : decode cX0_isSame 29 = .ok (.getfield 18, 3) := by decide +kernel
theorem dX0_isSame_32 : decode cX0_isSame 32 = .ok (.lcmp, 1) := by decide +kernel
theorem dX0_isSame_33 : decode cX0_isSame 33 = .ok (.ifCond .ne 7, 3) := by decide +kernel
theorem dX0_isSame_36 : decode cX0_isSame 36 = .ok (.iconst 1, 1) := by decide +kernel
theorem dX0_isSame_37 : decode cX0_isSame 37 = .ok (.goto 4, 3) := by decide +kernel
theorem dX0_isSame_40 : decode cX0_isSame 40 = .ok (.iconst 0, 1) := by decide +kernel
theorem dX0_isSame_41 : decode cX0_isSame 41 = .ok (.ireturn, 1) := by decide +kernel
theorem dX0_isBefore_0 : decode cX0_isBefore 0 = .ok (.aload_n 0, 1) := by decide +kernel
theorem dX0_isBefore_1 : decode cX0_isBefore 1 = .ok (.getfield 9, 3) := by decide +kernel
theorem dX0_isBefore_4 : decode cX0_isBefore 4 = .ok (.aload_n 1, 1) := by decide +kernel
theorem dX0_isBefore_5 : decode cX0_isBefore 5 = .ok (.getfield 9, 3) := by decide +kernel
theorem dX0_isBefore_8 : decode cX0_isBefore 8 = .ok (.lcmp, 1) := by decide +kernel
theorem dX0_isBefore_9 : decode cX0_isBefore 9 = .ok (.ifCond .lt 27, 3) := by decide +kernel
theorem dX0_isBefore_12 : decode cX0_isBefore 12 = .ok (.aload_n 0, 1) := by decide +kernel
theorem dX0_isBefore_13 : decode cX0_isBefore 13 = .ok (.getfield 9, 3) := by decide +kernel
theorem dX0_isBefore_16 : decode cX0_isBefore 16 = .ok (.aload_n 1, 1) := by decide +kernel
theorem dX0_isBefore_17 : decode cX0_isBefore 17 = .ok (.getfield 9, 3) := by decide +kernel
theorem dX0_isBefore_20 : decode cX0_isBefore 20 = .ok (.lcmp, 1) := by decide +kernel
theorem dX0_isBefore_21 : decode cX0_isBefore 21 = .ok (.ifCond .ne 19, 3) := by decide +kernel
theorem dX0_isBefore_24 : decode cX0_isBefore 24 = .ok (.aload_n 0, 1) := by decide +kernel
theorem dX0_isBefore_25 : decode cX0_isBefore 25 = .ok (.getfield 15, 3) := by decide +kernel
theorem dX0_isBefore_28 : decode cX0_isBefore 28 = .ok (.aload_n 1, 1) := by decide +kernel
theorem dX0_isBefore_29 : decode cX0_isBefore 29 = .ok (.getfield 15, 3) := by decide +kernel
theorem dX0_isBefore_32 : decode cX0_isBefore 32 = .ok (.lcmp, 1) := by decide +kernel
theorem dX0_isBefore_33 : decode cX0_isBefore 33 = .ok (.ifCond .ge 7, 3) := by decide +kernel
theorem dX0_isBefore_36 : decode cX0_isBefore 36 = .ok (.iconst 1, 1) := by decide +kernel
theorem dX0_isBefore_37 : decode cX0_isBefore 37 = .ok (.goto 4, 3) := by decide +kernel
theorem dX0_isBefore_40 : decode cX0_isBefore 40 = .ok (.iconst 0, 1) := by decide +kernel
theorem dX0_isBefore_41 : decode cX0_isBefore 41 = .ok (.ireturn, 1) := by decide +kernel
theorem dX0_coefficient_0 : decode cX0_coefficient 0 = .ok (.iload_n 1, 1) := by decide +kernel
theorem dX0_coefficient_1 : decode cX0_coefficient 1 = .ok (.ifCond .ne 9, 3) := by decide +kernel
theorem dX0_coefficient_4 : decode cX0_coefficient 4 = .ok (.aload_n 0, 1) := by decide +kernel
theorem dX0_coefficient_5 : decode cX0_coefficient 5 = .ok (.getfield 9, 3) := by decide +kernel
theorem dX0_coefficient_8 : decode cX0_coefficient 8 = .ok (.l2i, 1) := by decide +kernel
theorem dX0_coefficient_9 : decode cX0_coefficient 9 = .ok (.ireturn, 1) := by decide +kernel
theorem dX0_coefficient_10 : decode cX0_coefficient 10 = .ok (.iload_n 1, 1) := by decide +kernel
theorem dX0_coefficient_11 : decode cX0_coefficient 11 = .ok (.iconst 1, 1) := by decide +kernel
theorem dX0_coefficient_12 : decode cX0_coefficient 12 = .ok (.if_icmp .ne 11, 3) := by decide +kernel
theorem dX0_coefficient_15 : decode cX0_coefficient 15 = .ok (.aload_n 0, 1) := by decide +kernel
theorem dX0_coefficient_16 : decode cX0_coefficient 16 = .ok (.getfield 15, 3) := by decide +kernel
theorem dX0_coefficient_19 : decode cX0_coefficient 19 = .ok (.l2i, 1) := by decide +kernel
theorem dX0_coefficient_20 : decode cX0_coefficient 20 = .ok (.goto 8, 3) := by decide +kernel
theorem dX0_coefficient_23 : decode cX0_coefficient 23 = .ok (.aload_n 0, 1) := by decide +kernel
theorem dX0_coefficient_24 : decode cX0_coefficient 24 = .ok (.getfield 18, 3) := by decide +kernel
theorem dX0_coefficient_27 : decode cX0_coefficient 27 = .ok (.l2i, 1) := by decide +kernel
theorem dX0_coefficient_28 : decode cX0_coefficient 28 = .ok (.ireturn, 1) := by decide +kernel
set_option maxRecDepth 20000 in
theorem ggX0_greatestDivisor_X0_commonDivisor : GoodIn wsX0_greatestDivisor wsX0_commonDivisor := goodIn_r _ [11] (by decide +kernel) (by decide +kernel)
set_option maxRecDepth 20000 in
theorem gX0_greatestDivisor_X0_commonDivisor : GoodIn wsX0_greatestDivisor (va_wsS RX0 40 yX0_commonDivisor wsX0_commonDivisor) := goodIn_app (goodIn_of _ (by decide +kernel)) ggX0_greatestDivisor_X0_commonDivisor
theorem dX0_greatestDivisor_0 : decode cX0_greatestDivisor 0 = .ok (.aload_n 0, 1) := by decide +kernel
theorem dX0_greatestDivisor_1 : decode cX0_greatestDivisor 1 = .ok (.getfield 9, 3) := by decide +kernel
theorem dX0_greatestDivisor_4 : decode cX0_greatestDivisor 4 = .ok (.invokestatic 35, 3) := by decide +kernel
theorem dX0_greatestDivisor_7 : decode cX0_greatestDivisor 7 = .ok (.aload_n 0, 1) := by decide +kernel
theorem dX0_greatestDivisor_8 : decode cX0_greatestDivisor 8 = .ok (.getfield 15, 3) := by decide +kernel
theorem dX0_greatestDivisor_11 : decode cX0_greatestDivisor 11 = .ok (.invokestatic 35, 3) := by decide +kernel
theorem dX0_greatestDivisor_14 : decode cX0_greatestDivisor 14 = .ok (.invokestatic 40, 3) := by decide +kernel
theorem dX0_greatestDivisor_17 : decode cX0_greatestDivisor 17 = .ok (.aload_n 0, 1) := by decide +kernel
theorem dX0_greatestDivisor_18 : decode cX0_greatestDivisor 18 = .ok (.getfield 18, 3) := by decide +kernel
theorem dX0_greatestDivisor_21 : decode cX0_greatestDivisor 21 = .ok (.invokestatic 35, 3) := by decide +kernel
theorem dX0_greatestDivisor_24 : decode cX0_greatestDivisor 24 = .ok (.invokestatic 40, 3) := by decide +kernel
theorem dX0_greatestDivisor_27 : decode cX0_greatestDivisor 27 = .ok (.l2i, 1) := by decide +kernel
theorem dX0_greatestDivisor_28 : decode cX0_greatestDivisor 28 = .ok (.ireturn, 1) := by decide +kernel
theorem dX0_commonDivisor_0 : decode cX0_commonDivisor 0 = .ok (.lload_n 0, 1) := by decide +kernel
theorem dX0_commonDivisor_1 : decode cX0_commonDivisor 1 = .ok (.lstore 4, 2) := by decide +kernel
theorem dX0_commonDivisor_3 : decode cX0_commonDivisor 3 = .ok (.lload_n 2, 1) := by decide +kernel
theorem dX0_commonDivisor_4 : decode cX0_commonDivisor 4 = .ok (.lstore 6, 2) := by decide +kernel
theorem dX0_commonDivisor_6 : decode cX0_commonDivisor 6 = .ok (.iconst 0, 1) := by decide +kernel
theorem dX0_commonDivisor_7 : decode cX0_commonDivisor 7 = .ok (.istore 8, 2) := by decide +kernel
theorem dX0_commonDivisor_9 : decode cX0_commonDivisor 9 = .ok (.iload 8, 2) := by decide +kernel
theorem dX0_commonDivisor_11 : decode cX0_commonDivisor 11 = .ok (.bipush 100, 2) := by decide +kernel
theorem dX0_commonDivisor_13 : decode cX0_commonDivisor 13 = .ok (.if_icmp .ge 31, 3) := by decide +kernel
theorem dX0_commonDivisor_16 : decode cX0_commonDivisor 16 = .ok (.lload 6, 2) := by decide +kernel
theorem dX0_commonDivisor_18 : decode cX0_commonDivisor 18 = .ok (.lconst 0, 1) := by decide +kernel
theorem dX0_commonDivisor_19 : decode cX0_commonDivisor 19 = .ok (.lcmp, 1) := by decide +kernel
theorem dX0_commonDivisor_20 : decode cX0_commonDivisor 20 = .ok (.ifCond .eq 24, 3) := by decide +kernel
theorem dX0_commonDivisor_23 : decode cX0_commonDivisor 23 = .ok (.lload 4, 2) := by decide +kernel
theorem dX0_commonDivisor_25 : decode cX0_commonDivisor 25 = .ok (.lload 6, 2) := by decide +kernel
theorem dX0_commonDivisor_27 : decode cX0_commonDivisor 27 = .ok (.lrem, 1) := by decide +kernel
theorem dX0_commonDivisor_28 : decode cX0_commonDivisor 28 = .ok (.lstore 9, 2) := by decide +kernel
theorem dX0_commonDivisor_30 : decode cX0_commonDivisor 30 = .ok (.lload 6, 2) := by decide +kernel
theorem dX0_commonDivisor_32 : decode cX0_commonDivisor 32 = .ok (.lstore 4, 2) := by decide +kernel
theorem dX0_commonDivisor_34 : decode cX0_commonDivisor 34 = .ok (.lload 9, 2) := by decide +kernel
theorem dX0_commonDivisor_36 : decode cX0_commonDivisor 36 = .ok (.lstore 6, 2) := by decide +kernel
theorem dX0_commonDivisor_38 : decode cX0_commonDivisor 38 = .ok (.iinc 8 1, 3) := by decide +kernel
theorem dX0_commonDivisor_41 : decode cX0_commonDivisor 41 = .ok (.goto (-32), 3) := by decide +kernel
theorem dX0_commonDivisor_44 : decode cX0_commonDivisor 44 = .ok (.lload 4, 2) := by decide +kernel
theorem dX0_commonDivisor_46 : decode cX0_commonDivisor 46 = .ok (.lreturn, 1) := by decide +kernel
theorem dX0_isReduced_0 : decode cX0_isReduced 0 = .ok (.aload_n 0, 1) := by decide +kernel
theorem dX0_isReduced_1 : decode cX0_isReduced 1 = .ok (.getfield 25, 3) := by decide +kernel
theorem dX0_isReduced_4 : decode cX0_isReduced 4 = .ok (.lconst 0, 1) := by decide +kernel
theorem dX0_isReduced_5 : decode cX0_isReduced 5 = .ok (.lcmp, 1) := by decide +kernel
theorem dX0_isReduced_6 : decode cX0_isReduced 6 = .ok (.ifCond .ge 68, 3) := by decide +kernel
theorem dX0_isReduced_9 : decode cX0_isReduced 9 = .ok (.aload_n 0, 1) := by decide +kernel
theorem dX0_isReduced_10 : decode cX0_isReduced 10 = .ok (.getfield 15, 3) := by decide +kernel
theorem dX0_isReduced_13 : decode cX0_isReduced 13 = .ok (.invokestatic 35, 3) := by decide +kernel
theorem dX0_isReduced_16 : decode cX0_isReduced 16 = .ok (.lstore_n 1, 1) := by decide +kernel
theorem dX0_isReduced_17 : decode cX0_isReduced 17 = .ok (.lload_n 1, 1) := by decide +kernel
theorem dX0_isReduced_18 : decode cX0_isReduced 18 = .ok (.aload_n 0, 1) := by decide +kernel
theorem dX0_isReduced_19 : decode cX0_isReduced 19 = .ok (.getfield 9, 3) := by decide +kernel
theorem dX0_isReduced_22 : decode cX0_isReduced 22 = .ok (.lcmp, 1) := by decide +kernel
theorem dX0_isReduced_23 : decode cX0_isReduced 23 = .ok (.ifCond .gt 49, 3) := by decide +kernel
theorem dX0_isReduced_26 : decode cX0_isReduced 26 = .ok (.aload_n 0, 1) := by decide +kernel
theorem dX0_isReduced_27 : decode cX0_isReduced 27 = .ok (.getfield 9, 3) := by decide +kernel
theorem dX0_isReduced_30 : decode cX0_isReduced 30 = .ok (.aload_n 0, 1) := by decide +kernel
theorem dX0_isReduced_31 : decode cX0_isReduced 31 = .ok (.getfield 18, 3) := by decide +kernel
theorem dX0_isReduced_34 : decode cX0_isReduced 34 = .ok (.lcmp, 1) := by decide +kernel
theorem dX0_isReduced_35 : decode cX0_isReduced 35 = .ok (.ifCond .gt 37, 3) := by decide +kernel
theorem dX0_isReduced_38 : decode cX0_isReduced 38 = .ok (.aload_n 0, 1) := by decide +kernel
theorem dX0_isReduced_39 : decode cX0_isReduced 39 = .ok (.getfield 15, 3) := by decide +kernel
theorem dX0_isReduced_42 : decode cX0_isReduced 42 = .ok (.lconst 0, 1) := by decide +kernel
theorem dX0_isReduced_43 : decode cX0_isReduced 43 = .ok (.lcmp, 1) := by decide +kernel
theorem dX0_isReduced_44 : decode cX0_isReduced 44 = .ok (.ifCond .ge 24, 3) := by decide +kernel
theorem dX0_isReduced_47 : decode cX0_isReduced 47 = .ok (.lload_n 1, 1) := by decide +kernel
theorem dX0_isReduced_48 : decode cX0_isReduced 48 = .ok (.aload_n 0, 1) := by decide +kernel
theorem dX0_isReduced_49 : decode cX0_isReduced 49 = .ok (.getfield 9, 3) := by decide +kernel
theorem dX0_isReduced_52 : decode cX0_isReduced 52 = .ok (.lcmp, 1) := by decide +kernel
theorem dX0_isReduced_53 : decode cX0_isReduced 53 = .ok (.ifCond .eq 19, 3) := by decide +kernel
theorem dX0_isReduced_56 : decode cX0_isReduced 56 = .ok (.aload_n 0, 1) := by decide +kernel
theorem dX0_isReduced_57 : decode cX0_isReduced 57 = .ok (.getfield 9, 3) := by decide +kernel
theorem dX0_isReduced_60 : decode cX0_isReduced 60 = .ok (.aload_n 0, 1) := by decide +kernel
theorem dX0_isReduced_61 : decode cX0_isReduced 61 = .ok (.getfield 18, 3) := by decide +kernel
theorem dX0_isReduced_64 : decode cX0_isReduced 64 = .ok (.lcmp, 1) := by decide +kernel
theorem dX0_isReduced_65 : decode cX0_isReduced 65 = .ok (.ifCond .eq 7, 3) := by decide +kernel
theorem dX0_isReduced_68 : decode cX0_isReduced 68 = .ok (.iconst 1, 1) := by decide +kernel
theorem dX0_isReduced_69 : decode cX0_isReduced 69 = .ok (.goto 4, 3) := by decide +kernel
theorem dX0_isReduced_72 : decode cX0_isReduced 72 = .ok (.iconst 0, 1) := by decide +kernel
theorem dX0_isReduced_73 : decode cX0_isReduced 73 = .ok (.ireturn, 1) := by decide +kernel
theorem dX0_isReduced_74 : decode cX0_isReduced 74 = .ok (.ldc2_w 44, 3) := by decide +kernel
theorem dX0_isReduced_77 : decode cX0_isReduced 77 = .ok (.aload_n 0, 1) := by decide +kernel
theorem dX0_isReduced_78 : decode cX0_isReduced 78 = .ok (.getfield 9, 3) := by decide +kernel
theorem dX0_isReduced_81 : decode cX0_isReduced 81 = .ok (.invokestatic 35, 3) := by decide +kernel
theorem dX0_isReduced_84 : decode cX0_isReduced 84 = .ok (.lmul, 1) := by decide +kernel
theorem dX0_isReduced_85 : decode cX0_isReduced 85 = .ok (.lstore_n 1, 1) := by decide +kernel
theorem dX0_isReduced_86 : decode cX0_isReduced 86 = .ok (.aload_n 0, 1) := by decide +kernel
theorem dX0_isReduced_87 : decode cX0_isReduced 87 = .ok (.getfield 15, 3) := by decide +kernel
theorem dX0_isReduced_90 : decode cX0_isReduced 90 = .ok (.lconst 0, 1) := by decide +kernel
theorem dX0_isReduced_91 : decode cX0_isReduced 91 = .ok (.lcmp, 1) := by decide +kernel
theorem dX0_isReduced_92 : decode cX0_isReduced 92 = .ok (.ifCond .le 47, 3) := by decide +kernel
theorem dX0_isReduced_95 : decode cX0_isReduced 95 = .ok (.aload_n 0, 1) := by decide +kernel
theorem dX0_isReduced_96 : decode cX0_isReduced 96 = .ok (.getfield 15, 3) := by decide +kernel
theorem dX0_isReduced_99 : decode cX0_isReduced 99 = .ok (.aload_n 0, 1) := by decide +kernel
theorem dX0_isReduced_100 : decode cX0_isReduced 100 = .ok (.getfield 32, 3) := by decide +kernel
theorem dX0_isReduced_103 : decode cX0_isReduced 103 = .ok (.lcmp, 1) := by decide +kernel
theorem dX0_isReduced_104 : decode cX0_isReduced 104 = .ok (.ifCond .gt 35, 3) := by decide +kernel
theorem dX0_isReduced_107 : decode cX0_isReduced 107 = .ok (.lload_n 1, 1) := by decide +kernel
theorem dX0_isReduced_108 : decode cX0_isReduced 108 = .ok (.aload_n 0, 1) := by decide +kernel
theorem dX0_isReduced_109 : decode cX0_isReduced 109 = .ok (.getfield 15, 3) := by decide +kernel
theorem dX0_isReduced_112 : decode cX0_isReduced 112 = .ok (.ladd, 1) := by decide +kernel
theorem dX0_isReduced_113 : decode cX0_isReduced 113 = .ok (.aload_n 0, 1) := by decide +kernel
theorem dX0_isReduced_114 : decode cX0_isReduced 114 = .ok (.getfield 32, 3) := by decide +kernel
theorem dX0_isReduced_117 : decode cX0_isReduced 117 = .ok (.lcmp, 1) := by decide +kernel
theorem dX0_isReduced_118 : decode cX0_isReduced 118 = .ok (.ifCond .le 21, 3) := by decide +kernel
theorem dX0_isReduced_121 : decode cX0_isReduced 121 = .ok (.lload_n 1, 1) := by decide +kernel
theorem dX0_isReduced_122 : decode cX0_isReduced 122 = .ok (.aload_n 0, 1) := by decide +kernel
theorem dX0_isReduced_123 : decode cX0_isReduced 123 = .ok (.getfield 15, 3) := by decide +kernel
theorem dX0_isReduced_126 : decode cX0_isReduced 126 = .ok (.lsub, 1) := by decide +kernel
theorem dX0_isReduced_127 : decode cX0_isReduced 127 = .ok (.aload_n 0, 1) := by decide +kernel
theorem dX0_isReduced_128 : decode cX0_isReduced 128 = .ok (.getfield 32, 3) := by decide +kernel
theorem dX0_isReduced_131 : decode cX0_isReduced 131 = .ok (.lcmp, 1) := by decide +kernel
theorem dX0_isReduced_132 : decode cX0_isReduced 132 = .ok (.ifCond .gt 7, 3) := by decide +kernel
theorem dX0_isReduced_135 : decode cX0_isReduced 135 = .ok (.iconst 1, 1) := by decide +kernel
theorem dX0_isReduced_136 : decode cX0_isReduced 136 = .ok (.goto 4, 3) := by decide +kernel
theorem dX0_isReduced_139 : decode cX0_isReduced 139 = .ok (.iconst 0, 1) := by decide +kernel
theorem dX0_isReduced_140 : decode cX0_isReduced 140 = .ok (.ireturn, 1) := by decide +kernel
set_option maxRecDepth 20000 in
theorem ggX0_goToReduced_X0_isReduced : GoodIn wsX0_goToReduced wsX0_isReduced := goodIn_r _ [6, 7, 8, 9, 10, 11, 12, 13, 14, 15, 16, 30, 31, 32, 33, 34] (by decide +kernel) (by decide +kernel)
set_option maxRecDepth 20000 in
theorem gX0_goToReduced_X0_isReduced : GoodIn wsX0_goToReduced (wsV RX0 47 RX0 yX0_isReduced wsX0_isReduced) := goodIn_app (goodIn_of _ (by decide +kernel)) ggX0_goToReduced_X0_isReduced
set_option maxRecDepth 20000 in
theorem ggX0_goToReduced_X0_goOn : GoodIn wsX0_goToReduced wsX0_goOn := goodIn_r _ [20, 14, 9, 10, 11, 12, 8, 15, 7, 21, 13, 22, 23, 24, 5, 25, 16, 26, 27, 28, 29, 30, 31, 32, 33, 34] (by decide +kernel) (by decide +kernel)
set_option maxRecDepth 20000 in
theorem gX0_goToReduced_X0_goOn : GoodIn wsX0_goToReduced (wsV RX0 51 RX0 yX0_goOn wsX0_goOn) := goodIn_app (goodIn_of _ (by decide +kernel)) ggX0_goToReduced_X0_goOn
theorem dX0_goToReduced_0 : decode cX0_goToReduced 0 = .ok (.iconst 0, 1) := by decide +kernel
theorem dX0_goToReduced_1 : decode cX0_goToReduced 1 = .ok (.istore_n 1, 1) := by decide +kernel
theorem dX0_goToReduced_2 : decode cX0_goToReduced 2 = .ok (.iload_n 1, 1) := by decide +kernel
theorem dX0_goToReduced_3 : decode cX0_goToReduced 3 = .ok (.ldc 46, 2) := by decide +kernel
theorem dX0_goToReduced_5 : decode cX0_goToReduced 5 = .ok (.if_icmp .ge 21, 3) := by decide +kernel
theorem dX0_goToReduced_8 : decode cX0_goToReduced 8 = .ok (.aload_n 0, 1) := by decide +kernel
theorem dX0_goToReduced_9 : decode cX0_goToReduced 9 = .ok (.invokevirtual 47, 3) := by decide +kernel
theorem dX0_goToReduced_12 : decode cX0_goToReduced 12 = .ok (.ifCond .ne 14, 3) := by decide +kernel
theorem dX0_goToReduced_15 : decode cX0_goToReduced 15 = .ok (.aload_n 0, 1) := by decide +kernel
theorem dX0_goToReduced_16 : decode cX0_goToReduced 16 = .ok (.invokevirtual 51, 3) := by decide +kernel
theorem dX0_goToReduced_19 : decode cX0_goToReduced 19 = .ok (.pop2, 1) := by decide +kernel
theorem dX0_goToReduced_20 : decode cX0_goToReduced 20 = .ok (.iinc 1 1, 3) := by decide +kernel
theorem dX0_goToReduced_23 : decode cX0_goToReduced 23 = .ok (.goto (-21), 3) := by decide +kernel
theorem dX0_goToReduced_26 : decode cX0_goToReduced 26 = .ok (.iload_n 1, 1) := by decide +kernel
theorem dX0_goToReduced_27 : decode cX0_goToReduced 27 = .ok (.ireturn, 1) := by decide +kernel
set_option maxRecDepth 20000 in
theorem ggX0_goOn_X0_nextMiddle : GoodIn wsX0_goOn wsX0_nextMiddle := goodIn_r _ [15, 7, 8, 16, 6, 17, 18, 19, 20, 21, 22, 23, 24, 25] (by decide +kernel) (by decide +kernel)
set_option maxRecDepth 20000 in
theorem gX0_goOn_X0_nextMiddle : GoodIn wsX0_goOn (wsV RX0 55 RX0 yX0_nextMiddle wsX0_nextMiddle) := goodIn_app (goodIn_of _ (by decide +kernel)) ggX0_goOn_X0_nextMiddle
theorem dX0_goOn_0 : decode cX0_goOn 0 = .ok (.aload_n 0, 1) := by decide +kernel
theorem dX0_goOn_1 : decode cX0_goOn 1 = .ok (.getfield 18, 3) := by decide +kernel
theorem dX0_goOn_4 : decode cX0_goOn 4 = .ok (.lconst 0, 1) := by decide +kernel
theorem dX0_goOn_5 : decode cX0_goOn 5 = .ok (.lcmp, 1) := by decide +kernel
theorem dX0_goOn_6 : decode cX0_goOn 6 = .ok (.ifCond .ne 5, 3) := by decide +kernel
theorem dX0_goOn_9 : decode cX0_goOn 9 = .ok (.lconst 0, 1) := by decide +kernel
theorem dX0_goOn_10 : decode cX0_goOn 10 = .ok (.lreturn, 1) := by decide +kernel
theorem dX0_goOn_11 : decode cX0_goOn 11 = .ok (.aload_n 0, 1) := by decide +kernel
theorem dX0_goOn_12 : decode cX0_goOn 12 = .ok (.aload_n 0, 1) := by decide +kernel
theorem dX0_goOn_13 : decode cX0_goOn 13 = .ok (.getfield 18, 3) := by decide +kernel
theorem dX0_goOn_16 : decode cX0_goOn 16 = .ok (.invokestatic 35, 3) := by decide +kernel
theorem dX0_goOn_19 : decode cX0_goOn 19 = .ok (.invokevirtual 55, 3) := by decide +kernel
theorem dX0_goOn_22 : decode cX0_goOn 22 = .ok (.lstore_n 1, 1) := by decide +kernel
theorem dX0_goOn_23 : decode cX0_goOn 23 = .ok (.aload_n 0, 1) := by decide +kernel
theorem dX0_goOn_24 : decode cX0_goOn 24 = .ok (.getfield 15, 3) := by decide +kernel
theorem dX0_goOn_27 : decode cX0_goOn 27 = .ok (.lload_n 1, 1) := by decide +kernel
theorem dX0_goOn_28 : decode cX0_goOn 28 = .ok (.ladd, 1) := by decide +kernel
theorem dX0_goOn_29 : decode cX0_goOn 29 = .ok (.ldc2_w 44, 3) := by decide +kernel
theorem dX0_goOn_32 : decode cX0_goOn 32 = .ok (.aload_n 0, 1) := by decide +kernel
theorem dX0_goOn_33 : decode cX0_goOn 33 = .ok (.getfield 18, 3) := by decide +kernel
theorem dX0_goOn_36 : decode cX0_goOn 36 = .ok (.lmul, 1) := by decide +kernel
theorem dX0_goOn_37 : decode cX0_goOn 37 = .ok (.ldiv, 1) := by decide +kernel
theorem dX0_goOn_38 : decode cX0_goOn 38 = .ok (.lstore_n 3, 1) := by decide +kernel
theorem dX0_goOn_39 : decode cX0_goOn 39 = .ok (.lload_n 1, 1) := by decide +kernel
theorem dX0_goOn_40 : decode cX0_goOn 40 = .ok (.lload_n 1, 1) := by decide +kernel
theorem dX0_goOn_41 : decode cX0_goOn 41 = .ok (.lmul, 1) := by decide +kernel
theorem dX0_goOn_42 : decode cX0_goOn 42 = .ok (.aload_n 0, 1) := by decide +kernel
theorem dX0_goOn_43 : decode cX0_goOn 43 = .ok (.getfield 25, 3) := by decide +kernel
theorem dX0_goOn_46 : decode cX0_goOn 46 = .ok (.lsub, 1) := by decide +kernel
theorem dX0_goOn_47 : decode cX0_goOn 47 = .ok (.ldc2_w 58, 3) := by decide +kernel
theorem dX0_goOn_50 : decode cX0_goOn 50 = .ok (.aload_n 0, 1) := by decide +kernel
theorem dX0_goOn_51 : decode cX0_goOn 51 = .ok (.getfield 18, 3) := by decide +kernel
theorem dX0_goOn_54 : decode cX0_goOn 54 = .ok (.lmul, 1) := by decide +kernel
theorem dX0_goOn_55 : decode cX0_goOn 55 = .ok (.ldiv, 1) := by decide +kernel
theorem dX0_goOn_56 : decode cX0_goOn 56 = .ok (.lstore 5, 2) := by decide +kernel
theorem dX0_goOn_58 : decode cX0_goOn 58 = .ok (.aload_n 0, 1) := by decide +kernel
theorem dX0_goOn_59 : decode cX0_goOn 59 = .ok (.aload_n 0, 1) := by decide +kernel
theorem dX0_goOn_60 : decode cX0_goOn 60 = .ok (.getfield 18, 3) := by decide +kernel
theorem dX0_goOn_63 : decode cX0_goOn 63 = .ok (.putfield 9, 3) := by decide +kernel
theorem dX0_goOn_66 : decode cX0_goOn 66 = .ok (.aload_n 0, 1) := by decide +kernel
theorem dX0_goOn_67 : decode cX0_goOn 67 = .ok (.lload_n 1, 1) := by decide +kernel
theorem dX0_goOn_68 : decode cX0_goOn 68 = .ok (.putfield 15, 3) := by decide +kernel
theorem dX0_goOn_71 : decode cX0_goOn 71 = .ok (.aload_n 0, 1) := by decide +kernel
theorem dX0_goOn_72 : decode cX0_goOn 72 = .ok (.lload 5, 2) := by decide +kernel
theorem dX0_goOn_74 : decode cX0_goOn 74 = .ok (.putfield 18, 3) := by decide +kernel
theorem dX0_goOn_77 : decode cX0_goOn 77 = .ok (.lload_n 3, 1) := by decide +kernel
theorem dX0_goOn_78 : decode cX0_goOn 78 = .ok (.lreturn, 1) := by decide +kernel
set_option maxRecDepth 20000 in
theorem ggX0_nextMiddle_J9_floorMod_f86c9 : GoodIn wsX0_nextMiddle wsJ9_floorMod_f86c9 := goodIn_r _ [8] (by decide +kernel) (by decide +kernel)
set_option maxRecDepth 20000 in
theorem gX0_nextMiddle_J9_floorMod_f86c9 : GoodIn wsX0_nextMiddle (va_wsS RX0 60 yJ9_floorMod_f86c9 wsJ9_floorMod_f86c9) := goodIn_app (goodIn_of _ (by decide +kernel)) ggX0_nextMiddle_J9_floorMod_f86c9
theorem dX0_nextMiddle_0 : decode cX0_nextMiddle 0 = .ok (.ldc2_w 44, 3) := by decide +kernel
theorem dX0_nextMiddle_3 : decode cX0_nextMiddle 3 = .ok (.lload_n 1, 1) := by decide +kernel
theorem dX0_nextMiddle_4 : decode cX0_nextMiddle 4 = .ok (.lmul, 1) := by decide +kernel
theorem dX0_nextMiddle_5 : decode cX0_nextMiddle 5 = .ok (.lstore_n 3, 1) := by decide +kernel
theorem dX0_nextMiddle_6 : decode cX0_nextMiddle 6 = .ok (.lload_n 3, 1) := by decide +kernel
theorem dX0_nextMiddle_7 : decode cX0_nextMiddle 7 = .ok (.lconst 1, 1) := by decide +kernel
theorem dX0_nextMiddle_8 : decode cX0_nextMiddle 8 = .ok (.lcmp, 1) := by decide +kernel
theorem dX0_nextMiddle_9 : decode cX0_nextMiddle 9 = .ok (.ifCond .ge 5, 3) := by decide +kernel
theorem dX0_nextMiddle_12 : decode cX0_nextMiddle 12 = .ok (.lconst 0, 1) := by decide +kernel
theorem dX0_nextMiddle_13 : decode cX0_nextMiddle 13 = .ok (.lreturn, 1) := by decide +kernel
theorem dX0_nextMiddle_14 : decode cX0_nextMiddle 14 = .ok (.aload_n 0, 1) := by decide +kernel
theorem dX0_nextMiddle_15 : decode cX0_nextMiddle 15 = .ok (.getfield 25, 3) := by decide +kernel
theorem dX0_nextMiddle_18 : decode cX0_nextMiddle 18 = .ok (.lconst 0, 1) := by decide +kernel
theorem dX0_nextMiddle_19 : decode cX0_nextMiddle 19 = .ok (.lcmp, 1) := by decide +kernel
theorem dX0_nextMiddle_20 : decode cX0_nextMiddle 20 = .ok (.ifCond .lt 12, 3) := by decide +kernel
theorem dX0_nextMiddle_23 : decode cX0_nextMiddle 23 = .ok (.lload_n 1, 1) := by decide +kernel
theorem dX0_nextMiddle_24 : decode cX0_nextMiddle 24 = .ok (.aload_n 0, 1) := by decide +kernel
theorem dX0_nextMiddle_25 : decode cX0_nextMiddle 25 = .ok (.getfield 32, 3) := by decide +kernel
theorem dX0_nextMiddle_28 : decode cX0_nextMiddle 28 = .ok (.lcmp, 1) := by decide +kernel
