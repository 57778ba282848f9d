theorem dX3_together_21 : decode cX3_together 21 = .ok (.aload_n 0, 1) := by decide +kernel
theorem dX3_together_22 : decode cX3_together 22 = .ok (.getfield 44, 3) := by decide +kernel
theorem dX3_together_25 : decode cX3_together 25 = .ok (.ifCond .gt 20, 3) := by decide +kernel
theorem dX3_together_28 : decode cX3_together 28 = .ok (.iload_n 1, 1) := by decide +kernel
theorem dX3_together_29 : decode cX3_together 29 = .ok (.i2l, 1) := by decide +kernel
theorem dX3_together_30 : decode cX3_together 30 = .ok (.iload_n 2, 1) := by decide +kernel
theorem dX3_together_31 : decode cX3_together 31 = .ok (.i2l, 1) := by decide +kernel
theorem dX3_together_32 : decode cX3_together 32 = .ok (.iload_n 3, 1) := by decide +kernel
theorem dX3_together_33 : decode cX3_together 33 = .ok (.i2l, 1) := by decide +kernel
theorem dX3_together_34 : decode cX3_together 34 = .ok (.invokestatic 57, 3) := by decide +kernel
theorem dX3_together_37 : decode cX3_together 37 = .ok (.aload_n 0, 1) := by decide +kernel
theorem dX3_together_38 : decode cX3_together 38 = .ok (.getfield 18, 3) := by decide +kernel
theorem dX3_together_41 : decode cX3_together 41 = .ok (.lcmp, 1) := by decide +kernel
theorem dX3_together_42 : decode cX3_together 42 = .ok (.ifCond .eq 5, 3) := by decide +kernel
theorem dX3_together_45 : decode cX3_together 45 = .ok (.iconst 0, 1) := by decide +kernel
theorem dX3_together_46 : decode cX3_together 46 = .ok (.ireturn, 1) := by decide +kernel
theorem dX3_together_47 : decode cX3_together 47 = .ok (.aload_n 0, 1) := by decide +kernel
theorem dX3_together_48 : decode cX3_together 48 = .ok (.iload_n 1, 1) := by decide +kernel
theorem dX3_together_49 : decode cX3_together 49 = .ok (.i2l, 1) := by decide +kernel
theorem dX3_together_50 : decode cX3_together 50 = .ok (.iload_n 2, 1) := by decide +kernel
theorem dX3_together_51 : decode cX3_together 51 = .ok (.i2l, 1) := by decide +kernel
theorem dX3_together_52 : decode cX3_together 52 = .ok (.iload_n 3, 1) := by decide +kernel
theorem dX3_together_53 : decode cX3_together 53 = .ok (.i2l, 1) := by decide +kernel
theorem dX3_together_54 : decode cX3_together 54 = .ok (.invokevirtual 97, 3) := by decide +kernel
theorem dX3_together_57 : decode cX3_together 57 = .ok (.aload_n 0, 1) := by decide +kernel
theorem dX3_together_58 : decode cX3_together 58 = .ok (.aload_n 0, 1) := by decide +kernel
theorem dX3_together_59 : decode cX3_together 59 = .ok (.getfield 18, 3) := by decide +kernel
theorem dX3_together_62 : decode cX3_together 62 = .ok (.aload_n 0, 1) := by decide +kernel
theorem dX3_together_63 : decode cX3_together 63 = .ok (.getfield 23, 3) := by decide +kernel
theorem dX3_together_66 : decode cX3_together 66 = .ok (.invokevirtual 132, 3) := by decide +kernel
theorem dX3_together_69 : decode cX3_together 69 = .ok (.aload_n 0, 1) := by decide +kernel
theorem dX3_together_70 : decode cX3_together 70 = .ok (.aload_n 0, 1) := by decide +kernel
theorem dX3_together_71 : decode cX3_together 71 = .ok (.getfield 18, 3) := by decide +kernel
theorem dX3_together_74 : decode cX3_together 74 = .ok (.aload_n 0, 1) := by decide +kernel
theorem dX3_together_75 : decode cX3_together 75 = .ok (.getfield 23, 3) := by decide +kernel
theorem dX3_together_78 : decode cX3_together 78 = .ok (.invokevirtual 135, 3) := by decide +kernel
theorem dX3_together_81 : decode cX3_together 81 = .ok (.aload_n 0, 1) := by decide +kernel
theorem dX3_together_82 : decode cX3_together 82 = .ok (.invokevirtual 138, 3) := by decide +kernel
theorem dX3_together_85 : decode cX3_together 85 = .ok (.ireturn, 1) := by decide +kernel
set_option maxRecDepth 20000 in
theorem ggX3_isNumber_X3_in : GoodIn wsX3_isNumber wsX3_in := goodIn_r _ [6] (by decide +kernel) (by decide +kernel)
set_option maxRecDepth 20000 in
theorem gX3_isNumber_X3_in : GoodIn wsX3_isNumber (va_wsS RX3 53 yX3_in wsX3_in) := goodIn_app (goodIn_of _ (by decide +kernel)) ggX3_isNumber_X3_in
theorem dX3_isNumber_0 : decode cX3_isNumber 0 = .ok (.aload_n 0, 1) := by decide +kernel
theorem dX3_isNumber_1 : decode cX3_isNumber 1 = .ok (.iload_n 1, 1) := by decide +kernel
theorem dX3_isNumber_2 : decode cX3_isNumber 2 = .ok (.i2l, 1) := by decide +kernel
theorem dX3_isNumber_3 : decode cX3_isNumber 3 = .ok (.lconst 0, 1) := by decide +kernel
theorem dX3_isNumber_4 : decode cX3_isNumber 4 = .ok (.ldc2_w 164, 3) := by decide +kernel
theorem dX3_isNumber_7 : decode cX3_isNumber 7 = .ok (.invokestatic 53, 3) := by decide +kernel
theorem dX3_isNumber_10 : decode cX3_isNumber 10 = .ok (.ifCond .eq 7, 3) := by decide +kernel
theorem dX3_isNumber_13 : decode cX3_isNumber 13 = .ok (.iconst 0, 1) := by decide +kernel
theorem dX3_isNumber_14 : decode cX3_isNumber 14 = .ok (.goto 4, 3) := by decide +kernel
theorem dX3_isNumber_17 : decode cX3_isNumber 17 = .ok (.iconst 1, 1) := by decide +kernel
theorem dX3_isNumber_18 : decode cX3_isNumber 18 = .ok (.putfield 44, 3) := by decide +kernel
theorem dX3_isNumber_21 : decode cX3_isNumber 21 = .ok (.aload_n 0, 1) := by decide +kernel
theorem dX3_isNumber_22 : decode cX3_isNumber 22 = .ok (.getfield 44, 3) := by decide +kernel
theorem dX3_isNumber_25 : decode cX3_isNumber 25 = .ok (.ifCond .ne 7, 3) := by decide +kernel
theorem dX3_isNumber_28 : decode cX3_isNumber 28 = .ok (.iconst 1, 1) := by decide +kernel
theorem dX3_isNumber_29 : decode cX3_isNumber 29 = .ok (.goto 4, 3) := by decide +kernel
theorem dX3_isNumber_32 : decode cX3_isNumber 32 = .ok (.iconst 0, 1) := by decide +kernel
theorem dX3_isNumber_33 : decode cX3_isNumber 33 = .ok (.ireturn, 1) := by decide +kernel
set_option maxRecDepth 20000 in
theorem ggX3_sized_X3_isBelow : GoodIn wsX3_sized wsX3_isBelow := goodIn_r _ [6, 1, 7, 8, 9, 5, 10, 11, 21, 22, 23, 24, 25, 26, 27, 28, 29, 30, 31, 32, 33, 34, 35] (by decide +kernel) (by decide +kernel)
set_option maxRecDepth 20000 in
theorem gX3_sized_X3_isBelow : GoodIn wsX3_sized (wsV RX3 105 RX3 yX3_isBelow wsX3_isBelow) := goodIn_app (goodIn_of _ (by decide +kernel)) ggX3_sized_X3_isBelow
set_option maxRecDepth 20000 in
theorem ggX3_sized_X3_negative : GoodIn wsX3_sized wsX3_negative := goodIn_r _ [15, 1, 16, 7, 8, 9, 5, 10, 11, 17, 18, 19, 20, 21, 22, 23, 24, 25, 26, 27, 28, 29, 30, 31, 32, 33, 34, 35] (by decide +kernel) (by decide +kernel)
set_option maxRecDepth 20000 in
theorem gX3_sized_X3_negative : GoodIn wsX3_sized (wsV RX3 122 RX3 yX3_negative wsX3_negative) := goodIn_app (goodIn_of _ (by decide +kernel)) ggX3_sized_X3_negative
set_option maxRecDepth 20000 in
theorem ggX3_sized_X3_get : GoodIn wsX3_sized wsX3_get := goodIn_r _ [10, 11, 21, 22, 23, 24, 25, 26, 27, 28, 29, 30, 31, 32, 33, 34, 35] (by decide +kernel) (by decide +kernel)
set_option maxRecDepth 20000 in
theorem gX3_sized_X3_get : GoodIn wsX3_sized (wsV RX3 101 RX3 yX3_get wsX3_get) := goodIn_app (goodIn_of _ (by decide +kernel)) ggX3_sized_X3_get
set_option maxRecDepth 20000 in
theorem ggX3_sized_X3_put : GoodIn wsX3_sized wsX3_put := goodIn_r _ [20, 11, 21, 22, 23, 24, 25, 26, 27, 28, 29, 30, 31, 32, 33, 34, 35] (by decide +kernel) (by decide +kernel)
set_option maxRecDepth 20000 in
theorem gX3_sized_X3_put : GoodIn wsX3_sized (wsV RX3 40 RX3 yX3_put wsX3_put) := goodIn_app (goodIn_of _ (by decide +kernel)) ggX3_sized_X3_put
theorem dX3_sized_0 : decode cX3_sized 0 = .ok (.aload_n 0, 1) := by decide +kernel
theorem dX3_sized_1 : decode cX3_sized 1 = .ok (.iload_n 1, 1) := by decide +kernel
theorem dX3_sized_2 : decode cX3_sized 2 = .ok (.invokevirtual 105, 3) := by decide +kernel
theorem dX3_sized_5 : decode cX3_sized 5 = .ok (.ifCond .eq 12, 3) := by decide +kernel
theorem dX3_sized_8 : decode cX3_sized 8 = .ok (.aload_n 0, 1) := by decide +kernel
theorem dX3_sized_9 : decode cX3_sized 9 = .ok (.iconst 4, 1) := by decide +kernel
theorem dX3_sized_10 : decode cX3_sized 10 = .ok (.iload_n 1, 1) := by decide +kernel
theorem dX3_sized_11 : decode cX3_sized 11 = .ok (.invokevirtual 122, 3) := by decide +kernel
theorem dX3_sized_14 : decode cX3_sized 14 = .ok (.goto 31, 3) := by decide +kernel
theorem dX3_sized_17 : decode cX3_sized 17 = .ok (.iconst 0, 1) := by decide +kernel
theorem dX3_sized_18 : decode cX3_sized 18 = .ok (.istore_n 2, 1) := by decide +kernel
theorem dX3_sized_19 : decode cX3_sized 19 = .ok (.iload_n 2, 1) := by decide +kernel
theorem dX3_sized_20 : decode cX3_sized 20 = .ok (.aload_n 0, 1) := by decide +kernel
theorem dX3_sized_21 : decode cX3_sized 21 = .ok (.getfield 32, 3) := by decide +kernel
theorem dX3_sized_24 : decode cX3_sized 24 = .ok (.if_icmp .ge 21, 3) := by decide +kernel
theorem dX3_sized_27 : decode cX3_sized 27 = .ok (.aload_n 0, 1) := by decide +kernel
theorem dX3_sized_28 : decode cX3_sized 28 = .ok (.iconst 4, 1) := by decide +kernel
theorem dX3_sized_29 : decode cX3_sized 29 = .ok (.iload_n 2, 1) := by decide +kernel
theorem dX3_sized_30 : decode cX3_sized 30 = .ok (.aload_n 0, 1) := by decide +kernel
theorem dX3_sized_31 : decode cX3_sized 31 = .ok (.iload_n 1, 1) := by decide +kernel
theorem dX3_sized_32 : decode cX3_sized 32 = .ok (.iload_n 2, 1) := by decide +kernel
theorem dX3_sized_33 : decode cX3_sized 33 = .ok (.invokevirtual 101, 3) := by decide +kernel
theorem dX3_sized_36 : decode cX3_sized 36 = .ok (.invokevirtual 40, 3) := by decide +kernel
theorem dX3_sized_39 : decode cX3_sized 39 = .ok (.iinc 2 1, 3) := by decide +kernel
theorem dX3_sized_42 : decode cX3_sized 42 = .ok (.goto (-23), 3) := by decide +kernel
theorem dX3_sized_45 : decode cX3_sized 45 = .ok (.aload_n 0, 1) := by decide +kernel
theorem dX3_sized_46 : decode cX3_sized 46 = .ok (.getfield 32, 3) := by decide +kernel
theorem dX3_sized_49 : decode cX3_sized 49 = .ok (.istore_n 2, 1) := by decide +kernel
theorem dX3_sized_50 : decode cX3_sized 50 = .ok (.iload_n 2, 1) := by decide +kernel
theorem dX3_sized_51 : decode cX3_sized 51 = .ok (.ifCond .le 20, 3) := by decide +kernel
theorem dX3_sized_54 : decode cX3_sized 54 = .ok (.aload_n 0, 1) := by decide +kernel
theorem dX3_sized_55 : decode cX3_sized 55 = .ok (.iconst 4, 1) := by decide +kernel
theorem dX3_sized_56 : decode cX3_sized 56 = .ok (.iload_n 2, 1) := by decide +kernel
theorem dX3_sized_57 : decode cX3_sized 57 = .ok (.iconst 1, 1) := by decide +kernel
theorem dX3_sized_58 : decode cX3_sized 58 = .ok (.isub, 1) := by decide +kernel
theorem dX3_sized_59 : decode cX3_sized 59 = .ok (.invokevirtual 101, 3) := by decide +kernel
theorem dX3_sized_62 : decode cX3_sized 62 = .ok (.ifCond .ne 9, 3) := by decide +kernel
theorem dX3_sized_65 : decode cX3_sized 65 = .ok (.iinc 2 (-1), 3) := by decide +kernel
theorem dX3_sized_68 : decode cX3_sized 68 = .ok (.goto (-18), 3) := by decide +kernel
theorem dX3_sized_71 : decode cX3_sized 71 = .ok (.iload_n 2, 1) := by decide +kernel
theorem dX3_sized_72 : decode cX3_sized 72 = .ok (.ireturn, 1) := by decide +kernel
set_option maxRecDepth 20000 in
theorem ggX3_sign_X3_isNumber : GoodIn wsX3_sign wsX3_isNumber := goodIn_r _ [5, 6, 7, 8, 9, 4, 10, 34, 35, 36, 37, 38, 39, 40, 41, 42, 43, 44, 45, 46, 47, 48] (by decide +kernel) (by decide +kernel)
set_option maxRecDepth 20000 in
theorem gX3_sign_X3_isNumber : GoodIn wsX3_sign (wsV RX3 166 RX3 yX3_isNumber wsX3_isNumber) := goodIn_app (goodIn_of _ (by decide +kernel)) ggX3_sign_X3_isNumber
set_option maxRecDepth 20000 in
theorem ggX3_sign_X3_isBelow : GoodIn wsX3_sign wsX3_isBelow := goodIn_r _ [14, 15, 16, 17, 18, 4, 19, 20, 34, 35, 36, 37, 38, 39, 40, 41, 42, 43, 44, 45, 46, 47, 48] (by decide +kernel) (by decide +kernel)
set_option maxRecDepth 20000 in
theorem gX3_sign_X3_isBelow : GoodIn wsX3_sign (wsV RX3 105 RX3 yX3_isBelow wsX3_isBelow) := goodIn_app (goodIn_of _ (by decide +kernel)) ggX3_sign_X3_isBelow
set_option maxRecDepth 20000 in
theorem ggX3_sign_X3_sized : GoodIn wsX3_sign wsX3_sized := goodIn_r _ [24, 15, 11, 12, 13, 4, 14, 16, 17, 18, 19, 20, 25, 26, 27, 28, 29, 30, 31, 32, 33, 34, 35, 36, 37, 38, 39, 40, 41, 42, 43, 44, 45, 46, 47, 48] (by decide +kernel) (by decide +kernel)
set_option maxRecDepth 20000 in
theorem gX3_sign_X3_sized : GoodIn wsX3_sign (wsV RX3 169 RX3 yX3_sized wsX3_sized) := goodIn_app (goodIn_of _ (by decide +kernel)) ggX3_sign_X3_sized
theorem dX3_sign_0 : decode cX3_sign 0 = .ok (.aload_n 0, 1) := by decide +kernel
theorem dX3_sign_1 : decode cX3_sign 1 = .ok (.iload_n 1, 1) := by decide +kernel
theorem dX3_sign_2 : decode cX3_sign 2 = .ok (.invokevirtual 166, 3) := by decide +kernel
theorem dX3_sign_5 : decode cX3_sign 5 = .ok (.ifCond .ne 5, 3) := by decide +kernel
theorem dX3_sign_8 : decode cX3_sign 8 = .ok (.iconst 0, 1) := by decide +kernel
theorem dX3_sign_9 : decode cX3_sign 9 = .ok (.ireturn, 1) := by decide +kernel
theorem dX3_sign_10 : decode cX3_sign 10 = .ok (.aload_n 0, 1) := by decide +kernel
theorem dX3_sign_11 : decode cX3_sign 11 = .ok (.iload_n 1, 1) := by decide +kernel
theorem dX3_sign_12 : decode cX3_sign 12 = .ok (.invokevirtual 105, 3) := by decide +kernel
theorem dX3_sign_15 : decode cX3_sign 15 = .ok (.ifCond .eq 7, 3) := by decide +kernel
theorem dX3_sign_18 : decode cX3_sign 18 = .ok (.iconst (-1), 1) := by decide +kernel
theorem dX3_sign_19 : decode cX3_sign 19 = .ok (.goto 16, 3) := by decide +kernel
theorem dX3_sign_22 : decode cX3_sign 22 = .ok (.aload_n 0, 1) := by decide +kernel
theorem dX3_sign_23 : decode cX3_sign 23 = .ok (.iload_n 1, 1) := by decide +kernel
theorem dX3_sign_24 : decode cX3_sign 24 = .ok (.invokevirtual 169, 3) := by decide +kernel
theorem dX3_sign_27 : decode cX3_sign 27 = .ok (.ifCond .le 7, 3) := by decide +kernel
theorem dX3_sign_30 : decode cX3_sign 30 = .ok (.iconst 1, 1) := by decide +kernel
theorem dX3_sign_31 : decode cX3_sign 31 = .ok (.goto 4, 3) := by decide +kernel
theorem dX3_sign_34 : decode cX3_sign 34 = .ok (.iconst 0, 1) := by decide +kernel
theorem dX3_sign_35 : decode cX3_sign 35 = .ok (.ireturn, 1) := by decide +kernel
set_option maxRecDepth 20000 in
theorem ggX3_bits_X3_isNumber : GoodIn wsX3_bits wsX3_isNumber := goodIn_r _ [5, 6, 7, 8, 9, 4, 10, 34, 35, 36, 37, 38, 39, 40, 41, 42, 43, 44, 45, 46, 47, 48] (by decide +kernel) (by decide +kernel)
set_option maxRecDepth 20000 in
theorem gX3_bits_X3_isNumber : GoodIn wsX3_bits (wsV RX3 166 RX3 yX3_isNumber wsX3_isNumber) := goodIn_app (goodIn_of _ (by decide +kernel)) ggX3_bits_X3_isNumber
set_option maxRecDepth 20000 in
theorem ggX3_bits_X3_sized : GoodIn wsX3_bits wsX3_sized := goodIn_r _ [14, 15, 16, 17, 18, 4, 19, 20, 21, 22, 23, 24, 25, 26, 27, 28, 29, 30, 31, 32, 33, 34, 35, 36, 37, 38, 39, 40, 41, 42, 43, 44, 45, 46, 47, 48] (by decide +kernel) (by decide +kernel)
set_option maxRecDepth 20000 in
theorem gX3_bits_X3_sized : GoodIn wsX3_bits (wsV RX3 169 RX3 yX3_sized wsX3_sized) := goodIn_app (goodIn_of _ (by decide +kernel)) ggX3_bits_X3_sized
set_option maxRecDepth 20000 in
theorem ggX3_bits_X3_get : GoodIn wsX3_bits wsX3_get := goodIn_r _ [23, 24, 34, 35, 36, 37, 38, 39, 40, 41, 42, 43, 44, 45, 46, 47, 48] (by decide +kernel) (by decide +kernel)
set_option maxRecDepth 20000 in
theorem gX3_bits_X3_get : GoodIn wsX3_bits (wsV RX3 101 RX3 yX3_get wsX3_get) := goodIn_app (goodIn_of _ (by decide +kernel)) ggX3_bits_X3_get
theorem dX3_bits_0 : decode cX3_bits 0 = .ok (.aload_n 0, 1) := by decide +kernel
theorem dX3_bits_1 : decode cX3_bits 1 = .ok (.iload_n 1, 1) := by decide +kernel
theorem dX3_bits_2 : decode cX3_bits 2 = .ok (.invokevirtual 166, 3) := by decide +kernel
theorem dX3_bits_5 : decode cX3_bits 5 = .ok (.ifCond .ne 5, 3) := by decide +kernel
theorem dX3_bits_8 : decode cX3_bits 8 = .ok (.iconst 0, 1) := by decide +kernel
theorem dX3_bits_9 : decode cX3_bits 9 = .ok (.ireturn, 1) := by decide +kernel
theorem dX3_bits_10 : decode cX3_bits 10 = .ok (.aload_n 0, 1) := by decide +kernel
theorem dX3_bits_11 : decode cX3_bits 11 = .ok (.iload_n 1, 1) := by decide +kernel
theorem dX3_bits_12 : decode cX3_bits 12 = .ok (.invokevirtual 169, 3) := by decide +kernel
theorem dX3_bits_15 : decode cX3_bits 15 = .ok (.istore_n 2, 1) := by decide +kernel
theorem dX3_bits_16 : decode cX3_bits 16 = .ok (.iload_n 2, 1) := by decide +kernel
theorem dX3_bits_17 : decode cX3_bits 17 = .ok (.ifCond .ne 5, 3) := by decide +kernel
theorem dX3_bits_20 : decode cX3_bits 20 = .ok (.iconst 0, 1) := by decide +kernel
theorem dX3_bits_21 : decode cX3_bits 21 = .ok (.ireturn, 1) := by decide +kernel
theorem dX3_bits_22 : decode cX3_bits 22 = .ok (.bipush 16, 2) := by decide +kernel
theorem dX3_bits_24 : decode cX3_bits 24 = .ok (.iload_n 2, 1) := by decide +kernel
theorem dX3_bits_25 : decode cX3_bits 25 = .ok (.iconst 1, 1) := by decide +kernel
theorem dX3_bits_26 : decode cX3_bits 26 = .ok (.isub, 1) := by decide +kernel
theorem dX3_bits_27 : decode cX3_bits 27 = .ok (.imul, 1) := by decide +kernel
theorem dX3_bits_28 : decode cX3_bits 28 = .ok (.istore_n 3, 1) := by decide +kernel
theorem dX3_bits_29 : decode cX3_bits 29 = .ok (.aload_n 0, 1) := by decide +kernel
theorem dX3_bits_30 : decode cX3_bits 30 = .ok (.iconst 4, 1) := by decide +kernel
theorem dX3_bits_31 : decode cX3_bits 31 = .ok (.iload_n 2, 1) := by decide +kernel
theorem dX3_bits_32 : decode cX3_bits 32 = .ok (.iconst 1, 1) := by decide +kernel
theorem dX3_bits_33 : decode cX3_bits 33 = .ok (.isub, 1) := by decide +kernel
theorem dX3_bits_34 : decode cX3_bits 34 = .ok (.invokevirtual 101, 3) := by decide +kernel
theorem dX3_bits_37 : decode cX3_bits 37 = .ok (.istore 4, 2) := by decide +kernel
theorem dX3_bits_39 : decode cX3_bits 39 = .ok (.iload 4, 2) := by decide +kernel
theorem dX3_bits_41 : decode cX3_bits 41 = .ok (.ifCond .le 15, 3) := by decide +kernel
theorem dX3_bits_44 : decode cX3_bits 44 = .ok (.iinc 3 1, 3) := by decide +kernel
theorem dX3_bits_47 : decode cX3_bits 47 = .ok (.iload 4, 2) := by decide +kernel
theorem dX3_bits_49 : decode cX3_bits 49 = .ok (.iconst 1, 1) := by decide +kernel
theorem dX3_bits_50 : decode cX3_bits 50 = .ok (.ishr, 1) := by decide +kernel
theorem dX3_bits_51 : decode cX3_bits 51 = .ok (.istore 4, 2) := by decide +kernel
theorem dX3_bits_53 : decode cX3_bits 53 = .ok (.goto (-14), 3) := by decide +kernel
theorem dX3_bits_56 : decode cX3_bits 56 = .ok (.iload_n 3, 1) := by decide +kernel
theorem dX3_bits_57 : decode cX3_bits 57 = .ok (.ireturn, 1) := by decide +kernel
set_option maxRecDepth 20000 in
theorem ggX3_word_X3_isNumber : GoodIn wsX3_word wsX3_isNumber := goodIn_r _ [6, 7, 8, 9, 10, 5, 11, 39, 40, 41, 42, 43, 44, 45, 46, 47, 48, 49, 50, 51, 52, 53] (by decide +kernel) (by decide +kernel)
set_option maxRecDepth 20000 in
theorem gX3_word_X3_isNumber : GoodIn wsX3_word (wsV RX3 166 RX3 yX3_isNumber wsX3_isNumber) := goodIn_app (goodIn_of _ (by decide +kernel)) ggX3_word_X3_isNumber
set_option maxRecDepth 20000 in
theorem ggX3_word_X3_in : GoodIn wsX3_word wsX3_in := goodIn_r _ [11] (by decide +kernel) (by decide +kernel)
set_option maxRecDepth 20000 in
theorem gX3_word_X3_in : GoodIn wsX3_word (va_wsS RX3 53 yX3_in wsX3_in) := goodIn_app (goodIn_of _ (by decide +kernel)) ggX3_word_X3_in
set_option maxRecDepth 20000 in
theorem ggX3_word_X3_raise : GoodIn wsX3_word wsX3_raise := goodIn_r _ [15, 8, 39, 40, 41, 42, 43, 44, 45, 46, 47, 48, 49, 50, 51, 52, 53] (by decide +kernel) (by decide +kernel)
set_option maxRecDepth 20000 in
theorem gX3_word_X3_raise : GoodIn wsX3_word (wsV RX3 175 RX3 yX3_raise wsX3_raise) := goodIn_app (goodIn_of _ (by decide +kernel)) ggX3_word_X3_raise
set_option maxRecDepth 20000 in
theorem ggX3_word_X3_sized : GoodIn wsX3_word wsX3_sized := goodIn_r _ [19, 20, 21, 22, 23, 5, 24, 25, 26, 27, 28, 29, 30, 31, 32, 33, 34, 35, 36, 37, 38, 39, 40, 41, 42, 43, 44, 45, 46, 47, 48, 49, 50, 51, 52, 53] (by decide +kernel) (by decide +kernel)
set_option maxRecDepth 20000 in
theorem gX3_word_X3_sized : GoodIn wsX3_word (wsV RX3 169 RX3 yX3_sized wsX3_sized) := goodIn_app (goodIn_of _ (by decide +kernel)) ggX3_word_X3_sized
set_option maxRecDepth 20000 in
theorem ggX3_word_X3_get : GoodIn wsX3_word wsX3_get := goodIn_r _ [28, 29, 39, 40, 41, 42, 43, 44, 45, 46, 47, 48, 49, 50, 51, 52, 53] (by decide +kernel) (by decide +kernel)
set_option maxRecDepth 20000 in
theorem gX3_word_X3_get : GoodIn wsX3_word (wsV RX3 101 RX3 yX3_get wsX3_get) := goodIn_app (goodIn_of _ (by decide +kernel)) ggX3_word_X3_get
theorem dX3_word_0 : decode cX3_word 0 = .ok (.aload_n 0, 1) := by decide +kernel
theorem dX3_word_1 : decode cX3_word 1 = .ok (.iload_n 1, 1) := by decide +kernel
theorem dX3_word_2 : decode cX3_word 2 = .ok (.invokevirtual 166, 3) := by decide +kernel
theorem dX3_word_5 : decode cX3_word 5 = .ok (.ifCond .ne 5, 3) := by decide +kernel
theorem dX3_word_8 : decode cX3_word 8 = .ok (.iconst 0, 1) := by decide +kernel
theorem dX3_word_9 : decode cX3_word 9 = .ok (.ireturn, 1) := by decide +kernel
theorem dX3_word_10 : decode cX3_word 10 = .ok (.iload_n 2, 1) := by decide +kernel
theorem dX3_word_11 : decode cX3_word 11 = .ok (.i2l, 1) := by decide +kernel
theorem dX3_word_12 : decode cX3_word 12 = .ok (.lconst 0, 1) := by decide +kernel
theorem dX3_word_13 : decode cX3_word 13 = .ok (.ldc2_w 173, 3) := by decide +kernel
theorem dX3_word_16 : decode cX3_word 16 = .ok (.invokestatic 53, 3) := by decide +kernel
theorem dX3_word_19 : decode cX3_word 19 = .ok (.ifCond .ne 9, 3) := by decide +kernel
theorem dX3_word_22 : decode cX3_word 22 = .ok (.aload_n 0, 1) := by decide +kernel
theorem dX3_word_23 : decode cX3_word 23 = .ok (.iconst 1, 1) := by decide +kernel
theorem dX3_word_24 : decode cX3_word 24 = .ok (.invokevirtual 175, 3) := by decide +kernel
theorem dX3_word_27 : decode cX3_word 27 = .ok (.ireturn, 1) := by decide +kernel
theorem dX3_word_28 : decode cX3_word 28 = .ok (.aload_n 0, 1) := by decide +kernel
theorem dX3_word_29 : decode cX3_word 29 = .ok (.iload_n 1, 1) := by decide +kernel
theorem dX3_word_30 : decode cX3_word 30 = .ok (.invokevirtual 169, 3) := by decide +kernel
theorem dX3_word_33 : decode cX3_word 33 = .ok (.istore_n 3, 1) := by decide +kernel
theorem dX3_word_34 : decode cX3_word 34 = .ok (.iconst 2, 1) := by decide +kernel
theorem dX3_word_35 : decode cX3_word 35 = .ok (.iload_n 2, 1) := by decide +kernel
theorem dX3_word_36 : decode cX3_word 36 = .ok (.imul, 1) := by decide +kernel
theorem dX3_word_37 : decode cX3_word 37 = .ok (.iload_n 3, 1) := by decide +kernel
theorem dX3_word_38 : decode cX3_word 38 = .ok (.if_icmp .ge 14, 3) := by decide +kernel
theorem dX3_word_41 : decode cX3_word 41 = .ok (.aload_n 0, 1) := by decide +kernel
theorem dX3_word_42 : decode cX3_word 42 = .ok (.iconst 4, 1) := by decide +kernel
theorem dX3_word_43 : decode cX3_word 43 = .ok (.iconst 2, 1) := by decide +kernel
theorem dX3_word_44 : decode cX3_word 44 = .ok (.iload_n 2, 1) := by decide +kernel
theorem dX3_word_45 : decode cX3_word 45 = .ok (.imul, 1) := by decide +kernel
theorem dX3_word_46 : decode cX3_word 46 = .ok (.invokevirtual 101, 3) := by decide +kernel
theorem dX3_word_49 : decode cX3_word 49 = .ok (.goto 4, 3) := by decide +kernel
theorem dX3_word_52 : decode cX3_word 52 = .ok (.iconst 0, 1) := by decide +kernel
theorem dX3_word_53 : decode cX3_word 53 = .ok (.istore 4, 2) := by decide +kernel
theorem dX3_word_55 : decode cX3_word 55 = .ok (.iconst 2, 1) := by decide +kernel
theorem dX3_word_56 : decode cX3_word 56 = .ok (.iload_n 2, 1) := by decide +kernel
theorem dX3_word_57 : decode cX3_word 57 = .ok (.imul, 1) := by decide +kernel
theorem dX3_word_58 : decode cX3_word 58 = .ok (.iconst 1, 1) := by decide +kernel
theorem dX3_word_59 : decode cX3_word 59 = .ok (.iadd, 1) := by decide +kernel
theorem dX3_word_60 : decode cX3_word 60 = .ok (.iload_n 3, 1) := by decide +kernel
theorem dX3_word_61 : decode cX3_word 61 = .ok (.if_icmp .ge 16, 3) := by decide +kernel
theorem dX3_word_64 : decode cX3_word 64 = .ok (.aload_n 0, 1) := by decide +kernel
theorem dX3_word_65 : decode cX3_word 65 = .ok (.iconst 4, 1) := by decide +kernel
theorem dX3_word_66 : decode cX3_word 66 = .ok (.iconst 2, 1) := by decide +kernel
theorem dX3_word_67 : decode cX3_word 67 = .ok (.iload_n 2, 1) := by decide +kernel
theorem dX3_word_68 : decode cX3_word 68 = .ok (.imul, 1) := by decide +kernel
theorem dX3_word_69 : decode cX3_word 69 = .ok (.iconst 1, 1) := by decide +kernel
theorem dX3_word_70 : decode cX3_word 70 = .ok (.iadd, 1) := by decide +kernel
theorem dX3_word_71 : decode cX3_word 71 = .ok (.invokevirtual 101, 3) := by decide +kernel
theorem dX3_word_74 : decode cX3_word 74 = .ok (.goto 4, 3) := by decide +kernel
theorem dX3_word_77 : decode cX3_word 77 = .ok (.iconst 0, 1) := by decide +kernel
theorem dX3_word_78 : decode cX3_word 78 = .ok (.istore 5, 2) := by decide +kernel
theorem dX3_word_80 : decode cX3_word 80 = .ok (.iload 4, 2) := by decide +kernel
theorem dX3_word_82 : decode cX3_word 82 = .ok (.iload 5, 2) := by decide +kernel
theorem dX3_word_84 : decode cX3_word 84 = .ok (.bipush 16, 2) := by decide +kernel
theorem dX3_word_86 : decode cX3_word 86 = .ok (.ishl, 1) := by decide +kernel
theorem dX3_word_87 : decode cX3_word 87 = .ok (.ior, 1) := by decide +kernel
theorem dX3_word_88 : decode cX3_word 88 = .ok (.ireturn, 1) := by decide +kernel
set_option maxRecDepth 20000 in
theorem ggX3_residue_X3_isNumber : GoodIn wsX3_residue wsX3_isNumber := goodIn_r _ [6, 7, 8, 9, 10, 5, 11, 39, 40, 41, 42, 43, 44, 45, 46, 47, 48, 49, 50, 51, 52, 53] (by decide +kernel) (by decide +kernel)
set_option maxRecDepth 20000 in
theorem gX3_residue_X3_isNumber : GoodIn wsX3_residue (wsV RX3 166 RX3 yX3_isNumber wsX3_isNumber) := goodIn_app (goodIn_of _ (by decide +kernel)) ggX3_residue_X3_isNumber
set_option maxRecDepth 20000 in
theorem ggX3_residue_X3_raise : GoodIn wsX3_residue wsX3_raise := goodIn_r _ [15, 8, 39, 40, 41, 42, 43, 44, 45, 46, 47, 48, 49, 50, 51, 52, 53] (by decide +kernel) (by decide +kernel)
set_option maxRecDepth 20000 in
theorem gX3_residue_X3_raise : GoodIn wsX3_residue (wsV RX3 175 RX3 yX3_raise wsX3_raise) := goodIn_app (goodIn_of _ (by decide +kernel)) ggX3_residue_X3_raise
set_option maxRecDepth 20000 in
theorem ggX3_residue_X3_sized : GoodIn wsX3_residue wsX3_sized := goodIn_r _ [19, 20, 21, 22, 23, 5, 24, 25, 26, 27, 28, 29, 30, 31, 32, 33, 34, 35, 36, 37, 38, 39, 40, 41, 42, 43, 44, 45, 46, 47, 48, 49, 50, 51, 52, 53] (by decide +kernel) (by decide +kernel)
set_option maxRecDepth 20000 in
theorem gX3_residue_X3_sized : GoodIn wsX3_residue (wsV RX3 169 RX3 yX3_sized wsX3_sized) := goodIn_app (goodIn_of _ (by decide +kernel)) ggX3_residue_X3_sized
set_option maxRecDepth 20000 in
theorem ggX3_residue_X3_get : GoodIn wsX3_residue wsX3_get := goodIn_r _ [28, 29, 39, 40, 41, 42, 43, 44, 45, 46, 47, 48, 49, 50, 51, 52, 53] (by decide +kernel) (by decide +kernel)
set_option maxRecDepth 20000 in
theorem gX3_residue_X3_get : GoodIn wsX3_residue (wsV RX3 101 RX3 yX3_get wsX3_get) := goodIn_app (goodIn_of _ (by decide +kernel)) ggX3_residue_X3_get
set_option maxRecDepth 20000 in
theorem ggX3_residue_X3_isBelow : GoodIn wsX3_residue wsX3_isBelow := goodIn_r _ [24, 20, 25, 26, 27, 5, 28, 29, 39, 40, 41, 42, 43, 44, 45, 46, 47, 48, 49, 50, 51, 52, 53] (by decide +kernel) (by decide +kernel)
set_option maxRecDepth 20000 in
theorem gX3_residue_X3_isBelow : GoodIn wsX3_residue (wsV RX3 105 RX3 yX3_isBelow wsX3_isBelow) := goodIn_app (goodIn_of _ (by decide +kernel)) ggX3_residue_X3_isBelow
theorem dX3_residue_0 : decode cX3_residue 0 = .ok (.aload_n 0, 1) := by decide +kernel
theorem dX3_residue_1 : decode cX3_residue 1 = .ok (.iload_n 1, 1) := by decide +kernel
theorem dX3_residue_2 : decode cX3_residue 2 = .ok (.invokevirtual 166, 3) := by decide +kernel
theorem dX3_residue_5 : decode cX3_residue 5 = .ok (.ifCond .ne 5, 3) := by decide +kernel
theorem dX3_residue_8 : decode cX3_residue 8 = .ok (.iconst 0, 1) := by decide +kernel
theorem dX3_residue_9 : decode cX3_residue 9 = .ok (.ireturn, 1) := by decide +kernel
theorem dX3_residue_10 : decode cX3_residue 10 = .ok (.iload_n 2, 1) := by decide +kernel
theorem dX3_residue_11 : decode cX3_residue 11 = .ok (.iconst 1, 1) := by decide +kernel
theorem dX3_residue_12 : decode cX3_residue 12 = .ok (.if_icmp .ge 9, 3) := by decide +kernel
theorem dX3_residue_15 : decode cX3_residue 15 = .ok (.aload_n 0, 1) := by decide +kernel
theorem dX3_residue_16 : decode cX3_residue 16 = .ok (.iconst 2, 1) := by decide +kernel
theorem dX3_residue_17 : decode cX3_residue 17 = .ok (.invokevirtual 175, 3) := by decide +kernel
theorem dX3_residue_20 : decode cX3_residue 20 = .ok (.ireturn, 1) := by decide +kernel
theorem dX3_residue_21 : decode cX3_residue 21 = .ok (.lconst 0, 1) := by decide +kernel
theorem dX3_residue_22 : decode cX3_residue 22 = .ok (.lstore_n 3, 1) := by decide +kernel
theorem dX3_residue_23 : decode cX3_residue 23 = .ok (.aload_n 0, 1) := by decide +kernel
theorem dX3_residue_24 : decode cX3_residue 24 = .ok (.iload_n 1, 1) := by decide +kernel
theorem dX3_residue_25 : decode cX3_residue 25 = .ok (.invokevirtual 169, 3) := by decide +kernel
theorem dX3_residue_28 : decode cX3_residue 28 = .ok (.iconst 1, 1) := by decide +kernel
theorem dX3_residue_29 : decode cX3_residue 29 = .ok (.isub, 1) := by decide +kernel
theorem dX3_residue_30 : decode cX3_residue 30 = .ok (.istore 5, 2) := by decide +kernel
theorem dX3_residue_32 : decode cX3_residue 32 = .ok (.iload 5, 2) := by decide +kernel
theorem dX3_residue_34 : decode cX3_residue 34 = .ok (.ifCond .lt 27, 3) := by decide +kernel
theorem dX3_residue_37 : decode cX3_residue 37 = .ok (.lload_n 3, 1) := by decide +kernel
theorem dX3_residue_38 : decode cX3_residue 38 = .ok (.ldc2_w 178, 3) := by decide +kernel
theorem dX3_residue_41 : decode cX3_residue 41 = .ok (.lmul, 1) := by decide +kernel
theorem dX3_residue_42 : decode cX3_residue 42 = .ok (.aload_n 0, 1) := by decide +kernel
theorem dX3_residue_43 : decode cX3_residue 43 = .ok (.iconst 4, 1) := by decide +kernel
theorem dX3_residue_44 : decode cX3_residue 44 = .ok (.iload 5, 2) := by decide +kernel
theorem dX3_residue_46 : decode cX3_residue 46 = .ok (.invokevirtual 101, 3) := by decide +kernel
theorem dX3_residue_49 : decode cX3_residue 49 = .ok (.i2l, 1) := by decide +kernel
theorem dX3_residue_50 : decode cX3_residue 50 = .ok (.ladd, 1) := by decide +kernel
theorem dX3_residue_51 : decode cX3_residue 51 = .ok (.iload_n 2, 1) := by decide +kernel
