theorem dX2_take_43 : decode cX2_take 43 = .ok (.getfield 50, 3) := by decide +kernel
theorem dX2_take_46 : decode cX2_take 46 = .ok (.l2i, 1) := by decide +kernel
theorem dX2_take_47 : decode cX2_take 47 = .ok (.ireturn, 1) := by decide +kernel
set_option maxRecDepth 20000 in
theorem ggX2_form_X2_isCoefficient : GoodIn wsX2_form wsX2_isCoefficient := goodIn_r _ [9] (by decide +kernel) (by decide +kernel)
set_option maxRecDepth 20000 in
theorem gX2_form_X2_isCoefficient : GoodIn wsX2_form (va_wsS RX2 54 yX2_isCoefficient wsX2_isCoefficient) := goodIn_app (goodIn_of _ (by decide +kernel)) ggX2_form_X2_isCoefficient
set_option maxRecDepth 20000 in
theorem ggX2_form_X0_coefficient : GoodIn wsX2_form wsX0_coefficient := goodIn_r _ [14, 15, 16, 17, 27, 28, 29, 30, 31] (by decide +kernel) (by decide +kernel)
set_option maxRecDepth 20000 in
theorem gX2_form_X0_coefficient : GoodIn wsX2_form (wsV RX2 63 RX0 yX0_coefficient wsX0_coefficient) := goodIn_app (goodIn_of _ (by decide +kernel)) ggX2_form_X0_coefficient
theorem dX2_form_0 : decode cX2_form 0 = .ok (.iload_n 1, 1) := by decide +kernel
theorem dX2_form_1 : decode cX2_form 1 = .ok (.ifCond .lt 15, 3) := by decide +kernel
theorem dX2_form_4 : decode cX2_form 4 = .ok (.iload_n 1, 1) := by decide +kernel
theorem dX2_form_5 : decode cX2_form 5 = .ok (.iconst 2, 1) := by decide +kernel
theorem dX2_form_6 : decode cX2_form 6 = .ok (.if_icmp .gt 10, 3) := by decide +kernel
theorem dX2_form_9 : decode cX2_form 9 = .ok (.iload_n 2, 1) := by decide +kernel
theorem dX2_form_10 : decode cX2_form 10 = .ok (.invokestatic 54, 3) := by decide +kernel
theorem dX2_form_13 : decode cX2_form 13 = .ok (.ifCond .ne 13, 3) := by decide +kernel
theorem dX2_form_16 : decode cX2_form 16 = .ok (.new 58, 3) := by decide +kernel
theorem dX2_form_19 : decode cX2_form 19 = .ok (.dup, 1) := by decide +kernel
theorem dX2_form_20 : decode cX2_form 20 = .ok (.ldc 60, 2) := by decide +kernel
theorem dX2_form_22 : decode cX2_form 22 = .ok (.invokespecial 62, 3) := by decide +kernel
theorem dX2_form_25 : decode cX2_form 25 = .ok (.athrow, 1) := by decide +kernel
theorem dX2_form_26 : decode cX2_form 26 = .ok (.iload_n 1, 1) := by decide +kernel
theorem dX2_form_27 : decode cX2_form 27 = .ok (.ifCond .ne 12, 3) := by decide +kernel
theorem dX2_form_30 : decode cX2_form 30 = .ok (.aload_n 0, 1) := by decide +kernel
theorem dX2_form_31 : decode cX2_form 31 = .ok (.getfield 10, 3) := by decide +kernel
theorem dX2_form_34 : decode cX2_form 34 = .ok (.iload_n 2, 1) := by decide +kernel
theorem dX2_form_35 : decode cX2_form 35 = .ok (.invokevirtual 63, 3) := by decide +kernel
theorem dX2_form_38 : decode cX2_form 38 = .ok (.ireturn, 1) := by decide +kernel
theorem dX2_form_39 : decode cX2_form 39 = .ok (.iload_n 1, 1) := by decide +kernel
theorem dX2_form_40 : decode cX2_form 40 = .ok (.iconst 1, 1) := by decide +kernel
theorem dX2_form_41 : decode cX2_form 41 = .ok (.if_icmp .ne 14, 3) := by decide +kernel
theorem dX2_form_44 : decode cX2_form 44 = .ok (.aload_n 0, 1) := by decide +kernel
theorem dX2_form_45 : decode cX2_form 45 = .ok (.getfield 16, 3) := by decide +kernel
theorem dX2_form_48 : decode cX2_form 48 = .ok (.iload_n 2, 1) := by decide +kernel
theorem dX2_form_49 : decode cX2_form 49 = .ok (.invokevirtual 63, 3) := by decide +kernel
theorem dX2_form_52 : decode cX2_form 52 = .ok (.goto 11, 3) := by decide +kernel
theorem dX2_form_55 : decode cX2_form 55 = .ok (.aload_n 0, 1) := by decide +kernel
theorem dX2_form_56 : decode cX2_form 56 = .ok (.getfield 19, 3) := by decide +kernel
theorem dX2_form_59 : decode cX2_form 59 = .ok (.iload_n 2, 1) := by decide +kernel
theorem dX2_form_60 : decode cX2_form 60 = .ok (.invokevirtual 63, 3) := by decide +kernel
theorem dX2_form_63 : decode cX2_form 63 = .ok (.ireturn, 1) := by decide +kernel
set_option maxRecDepth 20000 in
theorem ggX2_count_X0_greatestDivisor : GoodIn wsX2_count wsX0_greatestDivisor := goodIn_r _ [11, 12, 13, 14, 15, 16, 17, 18, 19, 20, 10, 21, 31, 32, 33, 34, 35] (by decide +kernel) (by decide +kernel)
set_option maxRecDepth 20000 in
theorem gX2_count_X0_greatestDivisor : GoodIn wsX2_count (wsV RX2 70 RX0 yX0_greatestDivisor wsX0_greatestDivisor) := goodIn_app (goodIn_of _ (by decide +kernel)) ggX2_count_X0_greatestDivisor
theorem dX2_count_0 : decode cX2_count 0 = .ok (.iload_n 1, 1) := by decide +kernel
theorem dX2_count_1 : decode cX2_count 1 = .ok (.tableswitch 80 0 5 #[39, 48, 57, 65, 70, 75], 39) := by decide +kernel
theorem dX2_count_40 : decode cX2_count 40 = .ok (.aload_n 0, 1) := by decide +kernel
theorem dX2_count_41 : decode cX2_count 41 = .ok (.getfield 10, 3) := by decide +kernel
theorem dX2_count_44 : decode cX2_count 44 = .ok (.getfield 50, 3) := by decide +kernel
theorem dX2_count_47 : decode cX2_count 47 = .ok (.l2i, 1) := by decide +kernel
theorem dX2_count_48 : decode cX2_count 48 = .ok (.ireturn, 1) := by decide +kernel
theorem dX2_count_49 : decode cX2_count 49 = .ok (.aload_n 0, 1) := by decide +kernel
theorem dX2_count_50 : decode cX2_count 50 = .ok (.getfield 10, 3) := by decide +kernel
theorem dX2_count_53 : decode cX2_count 53 = .ok (.getfield 67, 3) := by decide +kernel
theorem dX2_count_56 : decode cX2_count 56 = .ok (.l2i, 1) := by decide +kernel
theorem dX2_count_57 : decode cX2_count 57 = .ok (.ireturn, 1) := by decide +kernel
theorem dX2_count_58 : decode cX2_count 58 = .ok (.aload_n 0, 1) := by decide +kernel
theorem dX2_count_59 : decode cX2_count 59 = .ok (.getfield 10, 3) := by decide +kernel
theorem dX2_count_62 : decode cX2_count 62 = .ok (.invokevirtual 70, 3) := by decide +kernel
theorem dX2_count_65 : decode cX2_count 65 = .ok (.ireturn, 1) := by decide +kernel
theorem dX2_count_66 : decode cX2_count 66 = .ok (.aload_n 0, 1) := by decide +kernel
theorem dX2_count_67 : decode cX2_count 67 = .ok (.getfield 74, 3) := by decide +kernel
theorem dX2_count_70 : decode cX2_count 70 = .ok (.ireturn, 1) := by decide +kernel
theorem dX2_count_71 : decode cX2_count 71 = .ok (.aload_n 0, 1) := by decide +kernel
theorem dX2_count_72 : decode cX2_count 72 = .ok (.getfield 78, 3) := by decide +kernel
theorem dX2_count_75 : decode cX2_count 75 = .ok (.ireturn, 1) := by decide +kernel
theorem dX2_count_76 : decode cX2_count 76 = .ok (.aload_n 0, 1) := by decide +kernel
theorem dX2_count_77 : decode cX2_count 77 = .ok (.getfield 81, 3) := by decide +kernel
theorem dX2_count_80 : decode cX2_count 80 = .ok (.ireturn, 1) := by decide +kernel
theorem dX2_count_81 : decode cX2_count 81 = .ok (.iconst (-1), 1) := by decide +kernel
theorem dX2_count_82 : decode cX2_count 82 = .ok (.ireturn, 1) := by decide +kernel
set_option maxRecDepth 20000 in
theorem ggX2_ring_X2_isCoefficient : GoodIn wsX2_ring wsX2_isCoefficient := goodIn_r _ [9] (by decide +kernel) (by decide +kernel)
set_option maxRecDepth 20000 in
theorem gX2_ring_X2_isCoefficient : GoodIn wsX2_ring (va_wsS RX2 54 yX2_isCoefficient wsX2_isCoefficient) := goodIn_app (goodIn_of _ (by decide +kernel)) ggX2_ring_X2_isCoefficient
set_option maxRecDepth 20000 in
theorem ggX2_ring_X0_copy : GoodIn wsX2_ring wsX0_copy := goodIn_r _ [14, 15, 16, 17, 18, 19, 51, 52, 53, 54, 55] (by decide +kernel) (by decide +kernel)
set_option maxRecDepth 20000 in
theorem gX2_ring_X0_copy : GoodIn wsX2_ring (wsV RX2 86 RX0 yX0_copy wsX0_copy) := goodIn_app (goodIn_of _ (by decide +kernel)) ggX2_ring_X0_copy
set_option maxRecDepth 20000 in
theorem ggX2_ring_X0_goOn : GoodIn wsX2_ring wsX0_goOn := goodIn_r _ [23, 17, 24, 25, 26, 27, 16, 28, 18, 29, 15, 30, 31, 32, 13, 33, 19, 34, 35, 36, 37, 51, 52, 53, 54, 55] (by decide +kernel) (by decide +kernel)
set_option maxRecDepth 20000 in
theorem gX2_ring_X0_goOn : GoodIn wsX2_ring (wsV RX2 90 RX0 yX0_goOn wsX0_goOn) := goodIn_app (goodIn_of _ (by decide +kernel)) ggX2_ring_X0_goOn
set_option maxRecDepth 20000 in
theorem ggX2_ring_X0_coefficient : GoodIn wsX2_ring wsX0_coefficient := goodIn_r _ [41, 15, 16, 17, 51, 52, 53, 54, 55] (by decide +kernel) (by decide +kernel)
set_option maxRecDepth 20000 in
theorem gX2_ring_X0_coefficient : GoodIn wsX2_ring (wsV RX2 63 RX0 yX0_coefficient wsX0_coefficient) := goodIn_app (goodIn_of _ (by decide +kernel)) ggX2_ring_X0_coefficient
theorem dX2_ring_0 : decode cX2_ring 0 = .ok (.iload_n 1, 1) := by decide +kernel
theorem dX2_ring_1 : decode cX2_ring 1 = .ok (.ifCond .lt 18, 3) := by decide +kernel
theorem dX2_ring_4 : decode cX2_ring 4 = .ok (.iload_n 1, 1) := by decide +kernel
theorem dX2_ring_5 : decode cX2_ring 5 = .ok (.aload_n 0, 1) := by decide +kernel
theorem dX2_ring_6 : decode cX2_ring 6 = .ok (.getfield 81, 3) := by decide +kernel
theorem dX2_ring_9 : decode cX2_ring 9 = .ok (.if_icmp .ge 10, 3) := by decide +kernel
theorem dX2_ring_12 : decode cX2_ring 12 = .ok (.iload_n 2, 1) := by decide +kernel
theorem dX2_ring_13 : decode cX2_ring 13 = .ok (.invokestatic 54, 3) := by decide +kernel
theorem dX2_ring_16 : decode cX2_ring 16 = .ok (.ifCond .ne 13, 3) := by decide +kernel
theorem dX2_ring_19 : decode cX2_ring 19 = .ok (.new 58, 3) := by decide +kernel
theorem dX2_ring_22 : decode cX2_ring 22 = .ok (.dup, 1) := by decide +kernel
theorem dX2_ring_23 : decode cX2_ring 23 = .ok (.ldc 84, 2) := by decide +kernel
theorem dX2_ring_25 : decode cX2_ring 25 = .ok (.invokespecial 62, 3) := by decide +kernel
theorem dX2_ring_28 : decode cX2_ring 28 = .ok (.athrow, 1) := by decide +kernel
theorem dX2_ring_29 : decode cX2_ring 29 = .ok (.aload_n 0, 1) := by decide +kernel
theorem dX2_ring_30 : decode cX2_ring 30 = .ok (.getfield 22, 3) := by decide +kernel
theorem dX2_ring_33 : decode cX2_ring 33 = .ok (.aload_n 0, 1) := by decide +kernel
theorem dX2_ring_34 : decode cX2_ring 34 = .ok (.getfield 19, 3) := by decide +kernel
theorem dX2_ring_37 : decode cX2_ring 37 = .ok (.invokevirtual 86, 3) := by decide +kernel
theorem dX2_ring_40 : decode cX2_ring 40 = .ok (.iconst 0, 1) := by decide +kernel
theorem dX2_ring_41 : decode cX2_ring 41 = .ok (.istore_n 3, 1) := by decide +kernel
theorem dX2_ring_42 : decode cX2_ring 42 = .ok (.iload_n 3, 1) := by decide +kernel
theorem dX2_ring_43 : decode cX2_ring 43 = .ok (.iload_n 1, 1) := by decide +kernel
theorem dX2_ring_44 : decode cX2_ring 44 = .ok (.if_icmp .ge 17, 3) := by decide +kernel
theorem dX2_ring_47 : decode cX2_ring 47 = .ok (.aload_n 0, 1) := by decide +kernel
theorem dX2_ring_48 : decode cX2_ring 48 = .ok (.getfield 22, 3) := by decide +kernel
theorem dX2_ring_51 : decode cX2_ring 51 = .ok (.invokevirtual 90, 3) := by decide +kernel
theorem dX2_ring_54 : decode cX2_ring 54 = .ok (.pop2, 1) := by decide +kernel
theorem dX2_ring_55 : decode cX2_ring 55 = .ok (.iinc 3 1, 3) := by decide +kernel
theorem dX2_ring_58 : decode cX2_ring 58 = .ok (.goto (-16), 3) := by decide +kernel
theorem dX2_ring_61 : decode cX2_ring 61 = .ok (.aload_n 0, 1) := by decide +kernel
theorem dX2_ring_62 : decode cX2_ring 62 = .ok (.getfield 22, 3) := by decide +kernel
theorem dX2_ring_65 : decode cX2_ring 65 = .ok (.iload_n 2, 1) := by decide +kernel
theorem dX2_ring_66 : decode cX2_ring 66 = .ok (.invokevirtual 63, 3) := by decide +kernel
theorem dX2_ring_69 : decode cX2_ring 69 = .ok (.ireturn, 1) := by decide +kernel
set_option maxRecDepth 20000 in
theorem ggX2_together_X2_canBeTaken : GoodIn wsX2_together wsX2_canBeTaken := goodIn_r _ [11, 12, 13, 14, 15, 10, 16, 17, 18, 19, 20, 21, 22, 23, 24, 25, 26] (by decide +kernel) (by decide +kernel)
set_option maxRecDepth 20000 in
theorem gX2_together_X2_canBeTaken : GoodIn wsX2_together (va_wsS RX2 39 yX2_canBeTaken wsX2_canBeTaken) := goodIn_app (goodIn_of _ (by decide +kernel)) ggX2_together_X2_canBeTaken
set_option maxRecDepth 20000 in
theorem ggX2_together_X0_put : GoodIn wsX2_together wsX0_put := goodIn_r _ [31, 32, 33, 34, 35, 36, 20, 10, 21, 22, 24, 25, 26, 78, 79, 80, 81, 82] (by decide +kernel) (by decide +kernel)
set_option maxRecDepth 20000 in
theorem gX2_together_X0_put : GoodIn wsX2_together (wsV RX2 32 RX0 yX0_put wsX0_put) := goodIn_app (goodIn_of _ (by decide +kernel)) ggX2_together_X0_put
set_option maxRecDepth 20000 in
theorem ggX2_together_X0_goToReduced : GoodIn wsX2_together wsX0_goToReduced := goodIn_r _ [40, 41, 42, 43, 44, 30, 45, 35, 33, 46, 47, 48, 49, 32, 34, 50, 36, 51, 52, 53, 54, 55, 56, 57, 58, 59, 60, 61, 62, 63, 78, 79, 80, 81, 82] (by decide +kernel) (by decide +kernel)
set_option maxRecDepth 20000 in
theorem gX2_together_X0_goToReduced : GoodIn wsX2_together (wsV RX2 96 RX0 yX0_goToReduced wsX0_goToReduced) := goodIn_app (goodIn_of _ (by decide +kernel)) ggX2_together_X0_goToReduced
set_option maxRecDepth 20000 in
theorem ggX2_together_X0_isSame : GoodIn wsX2_together wsX0_isSame := goodIn_r _ [67, 32, 33, 34, 78, 79, 80, 81, 82] (by decide +kernel) (by decide +kernel)
set_option maxRecDepth 20000 in
theorem gX2_together_X0_isSame : GoodIn wsX2_together (wsV RX2 99 RX0 yX0_isSame wsX0_isSame) := goodIn_app (goodIn_of _ (by decide +kernel)) ggX2_together_X0_isSame
set_option maxRecDepth 20000 in
theorem ggX2_together_X0_goOn : GoodIn wsX2_together wsX0_goOn := goodIn_r _ [54, 34, 46, 47, 48, 49, 33, 50, 35, 55, 32, 56, 57, 58, 30, 59, 36, 60, 61, 62, 63, 78, 79, 80, 81, 82] (by decide +kernel) (by decide +kernel)
set_option maxRecDepth 20000 in
theorem gX2_together_X0_goOn : GoodIn wsX2_together (wsV RX2 90 RX0 yX0_goOn wsX0_goOn) := goodIn_app (goodIn_of _ (by decide +kernel)) ggX2_together_X0_goOn
theorem dX2_together_0 : decode cX2_together 0 = .ok (.iload_n 1, 1) := by decide +kernel
theorem dX2_together_1 : decode cX2_together 1 = .ok (.i2l, 1) := by decide +kernel
theorem dX2_together_2 : decode cX2_together 2 = .ok (.iload_n 2, 1) := by decide +kernel
theorem dX2_together_3 : decode cX2_together 3 = .ok (.i2l, 1) := by decide +kernel
theorem dX2_together_4 : decode cX2_together 4 = .ok (.iload_n 3, 1) := by decide +kernel
theorem dX2_together_5 : decode cX2_together 5 = .ok (.i2l, 1) := by decide +kernel
theorem dX2_together_6 : decode cX2_together 6 = .ok (.invokestatic 39, 3) := by decide +kernel
theorem dX2_together_9 : decode cX2_together 9 = .ok (.ifCond .ne 13, 3) := by decide +kernel
theorem dX2_together_12 : decode cX2_together 12 = .ok (.new 43, 3) := by decide +kernel
theorem dX2_together_15 : decode cX2_together 15 = .ok (.dup, 1) := by decide +kernel
theorem dX2_together_16 : decode cX2_together 16 = .ok (.ldc 94, 2) := by decide +kernel
theorem dX2_together_18 : decode cX2_together 18 = .ok (.invokespecial 47, 3) := by decide +kernel
theorem dX2_together_21 : decode cX2_together 21 = .ok (.athrow, 1) := by decide +kernel
theorem dX2_together_22 : decode cX2_together 22 = .ok (.aload_n 0, 1) := by decide +kernel
theorem dX2_together_23 : decode cX2_together 23 = .ok (.getfield 22, 3) := by decide +kernel
theorem dX2_together_26 : decode cX2_together 26 = .ok (.iload_n 1, 1) := by decide +kernel
theorem dX2_together_27 : decode cX2_together 27 = .ok (.i2l, 1) := by decide +kernel
theorem dX2_together_28 : decode cX2_together 28 = .ok (.iload_n 2, 1) := by decide +kernel
theorem dX2_together_29 : decode cX2_together 29 = .ok (.i2l, 1) := by decide +kernel
theorem dX2_together_30 : decode cX2_together 30 = .ok (.iload_n 3, 1) := by decide +kernel
theorem dX2_together_31 : decode cX2_together 31 = .ok (.i2l, 1) := by decide +kernel
theorem dX2_together_32 : decode cX2_together 32 = .ok (.invokevirtual 32, 3) := by decide +kernel
theorem dX2_together_35 : decode cX2_together 35 = .ok (.aload_n 0, 1) := by decide +kernel
theorem dX2_together_36 : decode cX2_together 36 = .ok (.getfield 22, 3) := by decide +kernel
theorem dX2_together_39 : decode cX2_together 39 = .ok (.getfield 50, 3) := by decide +kernel
theorem dX2_together_42 : decode cX2_together 42 = .ok (.aload_n 0, 1) := by decide +kernel
theorem dX2_together_43 : decode cX2_together 43 = .ok (.getfield 10, 3) := by decide +kernel
theorem dX2_together_46 : decode cX2_together 46 = .ok (.getfield 50, 3) := by decide +kernel
theorem dX2_together_49 : decode cX2_together 49 = .ok (.lcmp, 1) := by decide +kernel
theorem dX2_together_50 : decode cX2_together 50 = .ok (.ifCond .eq 5, 3) := by decide +kernel
theorem dX2_together_53 : decode cX2_together 53 = .ok (.iconst 0, 1) := by decide +kernel
theorem dX2_together_54 : decode cX2_together 54 = .ok (.ireturn, 1) := by decide +kernel
theorem dX2_together_55 : decode cX2_together 55 = .ok (.aload_n 0, 1) := by decide +kernel
theorem dX2_together_56 : decode cX2_together 56 = .ok (.getfield 22, 3) := by decide +kernel
theorem dX2_together_59 : decode cX2_together 59 = .ok (.invokevirtual 96, 3) := by decide +kernel
theorem dX2_together_62 : decode cX2_together 62 = .ok (.pop, 1) := by decide +kernel
theorem dX2_together_63 : decode cX2_together 63 = .ok (.iconst 0, 1) := by decide +kernel
theorem dX2_together_64 : decode cX2_together 64 = .ok (.istore 4, 2) := by decide +kernel
theorem dX2_together_66 : decode cX2_together 66 = .ok (.iload 4, 2) := by decide +kernel
theorem dX2_together_68 : decode cX2_together 68 = .ok (.aload_n 0, 1) := by decide +kernel
theorem dX2_together_69 : decode cX2_together 69 = .ok (.getfield 81, 3) := by decide +kernel
theorem dX2_together_72 : decode cX2_together 72 = .ok (.if_icmp .ge 33, 3) := by decide +kernel
theorem dX2_together_75 : decode cX2_together 75 = .ok (.aload_n 0, 1) := by decide +kernel
theorem dX2_together_76 : decode cX2_together 76 = .ok (.getfield 22, 3) := by decide +kernel
theorem dX2_together_79 : decode cX2_together 79 = .ok (.aload_n 0, 1) := by decide +kernel
theorem dX2_together_80 : decode cX2_together 80 = .ok (.getfield 19, 3) := by decide +kernel
theorem dX2_together_83 : decode cX2_together 83 = .ok (.invokevirtual 99, 3) := by decide +kernel
theorem dX2_together_86 : decode cX2_together 86 = .ok (.ifCond .eq 5, 3) := by decide +kernel
theorem dX2_together_89 : decode cX2_together 89 = .ok (.iconst 1, 1) := by decide +kernel
theorem dX2_together_90 : decode cX2_together 90 = .ok (.ireturn, 1) := by decide +kernel
theorem dX2_together_91 : decode cX2_together 91 = .ok (.aload_n 0, 1) := by decide +kernel
theorem dX2_together_92 : decode cX2_together 92 = .ok (.getfield 22, 3) := by decide +kernel
theorem dX2_together_95 : decode cX2_together 95 = .ok (.invokevirtual 90, 3) := by decide +kernel
theorem dX2_together_98 : decode cX2_together 98 = .ok (.pop2, 1) := by decide +kernel
theorem dX2_together_99 : decode cX2_together 99 = .ok (.iinc 4 1, 3) := by decide +kernel
theorem dX2_together_102 : decode cX2_together 102 = .ok (.goto (-36), 3) := by decide +kernel
theorem dX2_together_105 : decode cX2_together 105 = .ok (.iconst 0, 1) := by decide +kernel
theorem dX2_together_106 : decode cX2_together 106 = .ok (.ireturn, 1) := by decide +kernel
set_option maxRecDepth 20000 in
theorem ggX2_sign_X2_isNumber : GoodIn wsX2_sign wsX2_isNumber := goodIn_r _ [7] (by decide +kernel) (by decide +kernel)
set_option maxRecDepth 20000 in
theorem gX2_sign_X2_isNumber : GoodIn wsX2_sign (va_wsS RX2 103 yX2_isNumber wsX2_isNumber) := goodIn_app (goodIn_of _ (by decide +kernel)) ggX2_sign_X2_isNumber
set_option maxRecDepth 20000 in
theorem ggX2_sign_X2_makeMatrix : GoodIn wsX2_sign wsX2_makeMatrix := goodIn_r _ [11, 12, 13, 14, 3, 15, 16, 17, 18, 19, 20, 21, 22, 23, 24, 25, 26, 27, 28, 29, 30, 31, 32, 33, 34, 35, 36, 37, 38, 39, 40, 41, 42, 43, 44, 45, 46, 47, 48, 49, 50, 51, 52, 53, 54, 55, 56, 57, 58, 59, 60, 61, 62, 63, 64, 65, 66, 67, 68, 69, 70, 71, 72, 73, 74, 75, 76, 77, 78, 79, 80, 81, 82, 83, 84, 85, 86, 87, 88, 89, 90, 91, 92, 93, 94, 95, 96, 97, 102, 103, 104, 105, 106, 107, 108, 109, 110, 111, 112, 113, 114, 115, 116, 117, 118, 119, 120, 121, 122] (by decide +kernel) (by decide +kernel)
set_option maxRecDepth 20000 in
theorem gX2_sign_X2_makeMatrix : GoodIn wsX2_sign (wsV RX2 108 RX2 yX2_makeMatrix wsX2_makeMatrix) := goodIn_app (goodIn_of _ (by decide +kernel)) ggX2_sign_X2_makeMatrix
set_option maxRecDepth 20000 in
theorem ggX2_sign_X1_signOf : GoodIn wsX2_sign wsX1_signOf := goodIn_r _ [101, 89, 116, 117, 118, 119, 120, 121, 122] (by decide +kernel) (by decide +kernel)
set_option maxRecDepth 20000 in
theorem gX2_sign_X1_signOf : GoodIn wsX2_sign (wsV RX2 111 RX1 yX1_signOf wsX1_signOf) := goodIn_app (goodIn_of _ (by decide +kernel)) ggX2_sign_X1_signOf
theorem dX2_sign_0 : decode cX2_sign 0 = .ok (.iload_n 1, 1) := by decide +kernel
theorem dX2_sign_1 : decode cX2_sign 1 = .ok (.invokestatic 103, 3) := by decide +kernel
theorem dX2_sign_4 : decode cX2_sign 4 = .ok (.ifCond .ne 13, 3) := by decide +kernel
theorem dX2_sign_7 : decode cX2_sign 7 = .ok (.new 58, 3) := by decide +kernel
theorem dX2_sign_10 : decode cX2_sign 10 = .ok (.dup, 1) := by decide +kernel
theorem dX2_sign_11 : decode cX2_sign 11 = .ok (.ldc 106, 2) := by decide +kernel
theorem dX2_sign_13 : decode cX2_sign 13 = .ok (.invokespecial 62, 3) := by decide +kernel
theorem dX2_sign_16 : decode cX2_sign 16 = .ok (.athrow, 1) := by decide +kernel
theorem dX2_sign_17 : decode cX2_sign 17 = .ok (.aload_n 0, 1) := by decide +kernel
theorem dX2_sign_18 : decode cX2_sign 18 = .ok (.invokevirtual 108, 3) := by decide +kernel
theorem dX2_sign_21 : decode cX2_sign 21 = .ok (.aload_n 0, 1) := by decide +kernel
theorem dX2_sign_22 : decode cX2_sign 22 = .ok (.getfield 28, 3) := by decide +kernel
theorem dX2_sign_25 : decode cX2_sign 25 = .ok (.iload_n 1, 1) := by decide +kernel
theorem dX2_sign_26 : decode cX2_sign 26 = .ok (.invokevirtual 111, 3) := by decide +kernel
theorem dX2_sign_29 : decode cX2_sign 29 = .ok (.ireturn, 1) := by decide +kernel
set_option maxRecDepth 20000 in
theorem ggX2_bits_X2_isNumber : GoodIn wsX2_bits wsX2_isNumber := goodIn_r _ [7] (by decide +kernel) (by decide +kernel)
set_option maxRecDepth 20000 in
theorem gX2_bits_X2_isNumber : GoodIn wsX2_bits (va_wsS RX2 103 yX2_isNumber wsX2_isNumber) := goodIn_app (goodIn_of _ (by decide +kernel)) ggX2_bits_X2_isNumber
set_option maxRecDepth 20000 in
theorem ggX2_bits_X2_makeMatrix : GoodIn wsX2_bits wsX2_makeMatrix := goodIn_r _ [11, 12, 13, 14, 3, 15, 16, 17, 18, 19, 20, 21, 22, 23, 24, 25, 26, 27, 28, 29, 30, 31, 32, 33, 34, 35, 36, 37, 38, 39, 40, 41, 42, 43, 44, 45, 46, 47, 48, 49, 50, 51, 52, 53, 54, 55, 56, 57, 58, 59, 60, 61, 62, 63, 64, 65, 66, 67, 68, 69, 70, 71, 72, 73, 74, 75, 76, 77, 78, 79, 80, 81, 82, 83, 84, 85, 86, 87, 88, 89, 90, 91, 92, 93, 94, 95, 96, 97, 105, 106, 107, 108, 109, 110, 111, 112, 113, 114, 115, 116, 117, 118, 119, 120, 121, 122, 123, 124, 125] (by decide +kernel) (by decide +kernel)
set_option maxRecDepth 20000 in
theorem gX2_bits_X2_makeMatrix : GoodIn wsX2_bits (wsV RX2 108 RX2 yX2_makeMatrix wsX2_makeMatrix) := goodIn_app (goodIn_of _ (by decide +kernel)) ggX2_bits_X2_makeMatrix
set_option maxRecDepth 20000 in
theorem ggX2_bits_X1_bitsOf : GoodIn wsX2_bits wsX1_bitsOf := goodIn_r _ [101, 31, 32, 102, 103, 29, 104, 119, 120, 121, 122, 123, 124, 125] (by decide +kernel) (by decide +kernel)
set_option maxRecDepth 20000 in
theorem gX2_bits_X1_bitsOf : GoodIn wsX2_bits (wsV RX2 114 RX1 yX1_bitsOf wsX1_bitsOf) := goodIn_app (goodIn_of _ (by decide +kernel)) ggX2_bits_X1_bitsOf
theorem dX2_bits_0 : decode cX2_bits 0 = .ok (.iload_n 1, 1) := by decide +kernel
theorem dX2_bits_1 : decode cX2_bits 1 = .ok (.invokestatic 103, 3) := by decide +kernel
theorem dX2_bits_4 : decode cX2_bits 4 = .ok (.ifCond .ne 13, 3) := by decide +kernel
theorem dX2_bits_7 : decode cX2_bits 7 = .ok (.new 58, 3) := by decide +kernel
theorem dX2_bits_10 : decode cX2_bits 10 = .ok (.dup, 1) := by decide +kernel
theorem dX2_bits_11 : decode cX2_bits 11 = .ok (.ldc 106, 2) := by decide +kernel
theorem dX2_bits_13 : decode cX2_bits 13 = .ok (.invokespecial 62, 3) := by decide +kernel
theorem dX2_bits_16 : decode cX2_bits 16 = .ok (.athrow, 1) := by decide +kernel
theorem dX2_bits_17 : decode cX2_bits 17 = .ok (.aload_n 0, 1) := by decide +kernel
theorem dX2_bits_18 : decode cX2_bits 18 = .ok (.invokevirtual 108, 3) := by decide +kernel
theorem dX2_bits_21 : decode cX2_bits 21 = .ok (.aload_n 0, 1) := by decide +kernel
theorem dX2_bits_22 : decode cX2_bits 22 = .ok (.getfield 28, 3) := by decide +kernel
theorem dX2_bits_25 : decode cX2_bits 25 = .ok (.iload_n 1, 1) := by decide +kernel
theorem dX2_bits_26 : decode cX2_bits 26 = .ok (.invokevirtual 114, 3) := by decide +kernel
theorem dX2_bits_29 : decode cX2_bits 29 = .ok (.ireturn, 1) := by decide +kernel
set_option maxRecDepth 20000 in
theorem ggX2_word_X2_isNumber : GoodIn wsX2_word wsX2_isNumber := goodIn_r _ [7] (by decide +kernel) (by decide +kernel)
set_option maxRecDepth 20000 in
theorem gX2_word_X2_isNumber : GoodIn wsX2_word (va_wsS RX2 103 yX2_isNumber wsX2_isNumber) := goodIn_app (goodIn_of _ (by decide +kernel)) ggX2_word_X2_isNumber
set_option maxRecDepth 20000 in
theorem ggX2_word_X2_makeMatrix : GoodIn wsX2_word wsX2_makeMatrix := goodIn_r _ [11, 12, 13, 14, 3, 15, 16, 17, 18, 19, 20, 21, 22, 23, 24, 25, 26, 27, 28, 29, 30, 31, 32, 33, 34, 35, 36, 37, 38, 39, 40, 41, 42, 43, 44, 45, 46, 47, 48, 49, 50, 51, 52, 53, 54, 55, 56, 57, 58, 59, 60, 61, 62, 63, 64, 65, 66, 67, 68, 69, 70, 71, 72, 73, 74, 75, 76, 77, 78, 79, 80, 81, 82, 83, 84, 85, 86, 87, 88, 89, 90, 91, 92, 93, 94, 95, 96, 97, 102, 103, 104, 105, 106, 107, 108, 109, 110, 111, 112, 113, 114, 115, 116, 117, 118, 119, 120, 121, 122] (by decide +kernel) (by decide +kernel)
set_option maxRecDepth 20000 in
theorem gX2_word_X2_makeMatrix : GoodIn wsX2_word (wsV RX2 108 RX2 yX2_makeMatrix wsX2_makeMatrix) := goodIn_app (goodIn_of _ (by decide +kernel)) ggX2_word_X2_makeMatrix
set_option maxRecDepth 20000 in
theorem ggX2_word_X1_wordOf : GoodIn wsX2_word wsX1_wordOf := goodIn_r _ [101, 31, 32, 116, 117, 118, 119, 120, 121, 122] (by decide +kernel) (by decide +kernel)
set_option maxRecDepth 20000 in
theorem gX2_word_X1_wordOf : GoodIn wsX2_word (wsV RX2 119 RX1 yX1_wordOf wsX1_wordOf) := goodIn_app (goodIn_of _ (by decide +kernel)) ggX2_word_X1_wordOf
theorem dX2_word_0 : decode cX2_word 0 = .ok (.iload_n 1, 1) := by decide +kernel
theorem dX2_word_1 : decode cX2_word 1 = .ok (.invokestatic 103, 3) := by decide +kernel
theorem dX2_word_4 : decode cX2_word 4 = .ok (.ifCond .eq 14, 3) := by decide +kernel
theorem dX2_word_7 : decode cX2_word 7 = .ok (.iload_n 2, 1) := by decide +kernel
theorem dX2_word_8 : decode cX2_word 8 = .ok (.ifCond .lt 10, 3) := by decide +kernel
theorem dX2_word_11 : decode cX2_word 11 = .ok (.iload_n 2, 1) := by decide +kernel
theorem dX2_word_12 : decode cX2_word 12 = .ok (.sipush 512, 3) := by decide +kernel
theorem dX2_word_15 : decode cX2_word 15 = .ok (.if_icmp .lt 13, 3) := by decide +kernel
theorem dX2_word_18 : decode cX2_word 18 = .ok (.new 58, 3) := by decide +kernel
theorem dX2_word_21 : decode cX2_word 21 = .ok (.dup, 1) := by decide +kernel
theorem dX2_word_22 : decode cX2_word 22 = .ok (.ldc 117, 2) := by decide +kernel
theorem dX2_word_24 : decode cX2_word 24 = .ok (.invokespecial 62, 3) := by decide +kernel
theorem dX2_word_27 : decode cX2_word 27 = .ok (.athrow, 1) := by decide +kernel
theorem dX2_word_28 : decode cX2_word 28 = .ok (.aload_n 0, 1) := by decide +kernel
theorem dX2_word_29 : decode cX2_word 29 = .ok (.invokevirtual 108, 3) := by decide +kernel
theorem dX2_word_32 : decode cX2_word 32 = .ok (.aload_n 0, 1) := by decide +kernel
theorem dX2_word_33 : decode cX2_word 33 = .ok (.getfield 28, 3) := by decide +kernel
theorem dX2_word_36 : decode cX2_word 36 = .ok (.iload_n 1, 1) := by decide +kernel
theorem dX2_word_37 : decode cX2_word 37 = .ok (.iload_n 2, 1) := by decide +kernel
theorem dX2_word_38 : decode cX2_word 38 = .ok (.invokevirtual 119, 3) := by decide +kernel
theorem dX2_word_41 : decode cX2_word 41 = .ok (.ireturn, 1) := by decide +kernel
set_option maxRecDepth 20000 in
theorem ggX2_residue_X2_isNumber : GoodIn wsX2_residue wsX2_isNumber := goodIn_r _ [9] (by decide +kernel) (by decide +kernel)
set_option maxRecDepth 20000 in
theorem gX2_residue_X2_isNumber : GoodIn wsX2_residue (va_wsS RX2 103 yX2_isNumber wsX2_isNumber) := goodIn_app (goodIn_of _ (by decide +kernel)) ggX2_residue_X2_isNumber
set_option maxRecDepth 20000 in
theorem ggX2_residue_X2_makeMatrix : GoodIn wsX2_residue wsX2_makeMatrix := goodIn_r _ [13, 14, 15, 16, 5, 17, 18, 19, 20, 21, 22, 23, 24, 25, 26, 27, 28, 29, 30, 31, 32, 33, 34, 35, 36, 37, 38, 39, 40, 41, 42, 43, 44, 45, 46, 47, 48, 49, 50, 51, 52, 53, 54, 55, 56, 57, 58, 59, 60, 61, 62, 63, 64, 65, 66, 67, 68, 69, 70, 71, 72, 73, 74, 75, 76, 77, 78, 79, 80, 81, 82, 83, 84, 85, 86, 87, 88, 89, 90, 91, 92, 93, 94, 95, 96, 97, 98, 99, 104, 105, 106, 107, 108, 109, 110, 111, 112, 113, 114, 115, 116, 117, 118, 119, 120, 121, 122, 123, 124] (by decide +kernel) (by decide +kernel)
set_option maxRecDepth 20000 in
theorem gX2_residue_X2_makeMatrix : GoodIn wsX2_residue (wsV RX2 108 RX2 yX2_makeMatrix wsX2_makeMatrix) := goodIn_app (goodIn_of _ (by decide +kernel)) ggX2_residue_X2_makeMatrix
set_option maxRecDepth 20000 in
theorem ggX2_residue_X1_residueOf : GoodIn wsX2_residue wsX1_residueOf := goodIn_r _ [103, 33, 34, 82, 91, 118, 119, 120, 121, 122, 123, 124] (by decide +kernel) (by decide +kernel)
set_option maxRecDepth 20000 in
theorem gX2_residue_X1_residueOf : GoodIn wsX2_residue (wsV RX2 125 RX1 yX1_residueOf wsX1_residueOf) := goodIn_app (goodIn_of _ (by decide +kernel)) ggX2_residue_X1_residueOf
theorem dX2_residue_0 : decode cX2_residue 0 = .ok (.iload_n 1, 1) := by decide +kernel
theorem dX2_residue_1 : decode cX2_residue 1 = .ok (.invokestatic 103, 3) := by decide +kernel
theorem dX2_residue_4 : decode cX2_residue 4 = .ok (.ifCond .ne 13, 3) := by decide +kernel
theorem dX2_residue_7 : decode cX2_residue 7 = .ok (.new 58, 3) := by decide +kernel
theorem dX2_residue_10 : decode cX2_residue 10 = .ok (.dup, 1) := by decide +kernel
theorem dX2_residue_11 : decode cX2_residue 11 = .ok (.ldc 106, 2) := by decide +kernel
theorem dX2_residue_13 : decode cX2_residue 13 = .ok (.invokespecial 62, 3) := by decide +kernel
theorem dX2_residue_16 : decode cX2_residue 16 = .ok (.athrow, 1) := by decide +kernel
theorem dX2_residue_17 : decode cX2_residue 17 = .ok (.iload_n 2, 1) := by decide +kernel
theorem dX2_residue_18 : decode cX2_residue 18 = .ok (.iconst 1, 1) := by decide +kernel
theorem dX2_residue_19 : decode cX2_residue 19 = .ok (.if_icmp .ge 13, 3) := by decide +kernel
theorem dX2_residue_22 : decode cX2_residue 22 = .ok (.new 43, 3) := by decide +kernel
theorem dX2_residue_25 : decode cX2_residue 25 = .ok (.dup, 1) := by decide +kernel
theorem dX2_residue_26 : decode cX2_residue 26 = .ok (.ldc 123, 2) := by decide +kernel
theorem dX2_residue_28 : decode cX2_residue 28 = .ok (.invokespecial 47, 3) := by decide +kernel
theorem dX2_residue_31 : decode cX2_residue 31 = .ok (.athrow, 1) := by decide +kernel
theorem dX2_residue_32 : decode cX2_residue 32 = .ok (.aload_n 0, 1) := by decide +kernel
theorem dX2_residue_33 : decode cX2_residue 33 = .ok (.invokevirtual 108, 3) := by decide +kernel
theorem dX2_residue_36 : decode cX2_residue 36 = .ok (.aload_n 0, 1) := by decide +kernel
theorem dX2_residue_37 : decode cX2_residue 37 = .ok (.getfield 28, 3) := by decide +kernel
theorem dX2_residue_40 : decode cX2_residue 40 = .ok (.iload_n 1, 1) := by decide +kernel
theorem dX2_residue_41 : decode cX2_residue 41 = .ok (.iload_n 2, 1) := by decide +kernel
theorem dX2_residue_42 : decode cX2_residue 42 = .ok (.invokevirtual 125, 3) := by decide +kernel
theorem dX2_residue_45 : decode cX2_residue 45 = .ok (.ireturn, 1) := by decide +kernel
theorem dX2_isCoefficient_0 : decode cX2_isCoefficient 0 = .ok (.iload_n 0, 1) := by decide +kernel
theorem dX2_isCoefficient_1 : decode cX2_isCoefficient 1 = .ok (.ifCond .lt 12, 3) := by decide +kernel
theorem dX2_isCoefficient_4 : decode cX2_isCoefficient 4 = .ok (.iload_n 0, 1) := by decide +kernel
