theorem dX3_turnBack_2 : decode cX3_turnBack 2 = .ok (.invokevirtual 112, 3) := by decide +kernel
theorem dX3_turnBack_5 : decode cX3_turnBack 5 = .ok (.ifCond .eq 27, 3) := by decide +kernel
theorem dX3_turnBack_8 : decode cX3_turnBack 8 = .ok (.aload_n 0, 1) := by decide +kernel
theorem dX3_turnBack_9 : decode cX3_turnBack 9 = .ok (.iconst 1, 1) := by decide +kernel
theorem dX3_turnBack_10 : decode cX3_turnBack 10 = .ok (.invokevirtual 112, 3) := by decide +kernel
theorem dX3_turnBack_13 : decode cX3_turnBack 13 = .ok (.ifCond .eq 19, 3) := by decide +kernel
theorem dX3_turnBack_16 : decode cX3_turnBack 16 = .ok (.aload_n 0, 1) := by decide +kernel
theorem dX3_turnBack_17 : decode cX3_turnBack 17 = .ok (.iconst 2, 1) := by decide +kernel
theorem dX3_turnBack_18 : decode cX3_turnBack 18 = .ok (.invokevirtual 112, 3) := by decide +kernel
theorem dX3_turnBack_21 : decode cX3_turnBack 21 = .ok (.ifCond .eq 11, 3) := by decide +kernel
theorem dX3_turnBack_24 : decode cX3_turnBack 24 = .ok (.aload_n 0, 1) := by decide +kernel
theorem dX3_turnBack_25 : decode cX3_turnBack 25 = .ok (.iconst 3, 1) := by decide +kernel
theorem dX3_turnBack_26 : decode cX3_turnBack 26 = .ok (.invokevirtual 112, 3) := by decide +kernel
theorem dX3_turnBack_29 : decode cX3_turnBack 29 = .ok (.ifCond .ne 7, 3) := by decide +kernel
theorem dX3_turnBack_32 : decode cX3_turnBack 32 = .ok (.aload_n 0, 1) := by decide +kernel
theorem dX3_turnBack_33 : decode cX3_turnBack 33 = .ok (.invokevirtual 115, 3) := by decide +kernel
theorem dX3_turnBack_36 : decode cX3_turnBack 36 = .ok (.aload_n 0, 1) := by decide +kernel
theorem dX3_turnBack_37 : decode cX3_turnBack 37 = .ok (.iconst 4, 1) := by decide +kernel
theorem dX3_turnBack_38 : decode cX3_turnBack 38 = .ok (.iconst 0, 1) := by decide +kernel
theorem dX3_turnBack_39 : decode cX3_turnBack 39 = .ok (.lload_n 1, 1) := by decide +kernel
theorem dX3_turnBack_40 : decode cX3_turnBack 40 = .ok (.iconst 2, 1) := by decide +kernel
theorem dX3_turnBack_41 : decode cX3_turnBack 41 = .ok (.invokevirtual 118, 3) := by decide +kernel
theorem dX3_turnBack_44 : decode cX3_turnBack 44 = .ok (.aload_n 0, 1) := by decide +kernel
theorem dX3_turnBack_45 : decode cX3_turnBack 45 = .ok (.iconst 5, 1) := by decide +kernel
theorem dX3_turnBack_46 : decode cX3_turnBack 46 = .ok (.iconst 1, 1) := by decide +kernel
theorem dX3_turnBack_47 : decode cX3_turnBack 47 = .ok (.lload_n 1, 1) := by decide +kernel
theorem dX3_turnBack_48 : decode cX3_turnBack 48 = .ok (.iconst 3, 1) := by decide +kernel
theorem dX3_turnBack_49 : decode cX3_turnBack 49 = .ok (.invokevirtual 118, 3) := by decide +kernel
theorem dX3_turnBack_52 : decode cX3_turnBack 52 = .ok (.aload_n 0, 1) := by decide +kernel
theorem dX3_turnBack_53 : decode cX3_turnBack 53 = .ok (.iconst 2, 1) := by decide +kernel
theorem dX3_turnBack_54 : decode cX3_turnBack 54 = .ok (.iconst 0, 1) := by decide +kernel
theorem dX3_turnBack_55 : decode cX3_turnBack 55 = .ok (.invokevirtual 122, 3) := by decide +kernel
theorem dX3_turnBack_58 : decode cX3_turnBack 58 = .ok (.aload_n 0, 1) := by decide +kernel
theorem dX3_turnBack_59 : decode cX3_turnBack 59 = .ok (.iconst 3, 1) := by decide +kernel
theorem dX3_turnBack_60 : decode cX3_turnBack 60 = .ok (.iconst 1, 1) := by decide +kernel
theorem dX3_turnBack_61 : decode cX3_turnBack 61 = .ok (.invokevirtual 122, 3) := by decide +kernel
theorem dX3_turnBack_64 : decode cX3_turnBack 64 = .ok (.iconst 0, 1) := by decide +kernel
theorem dX3_turnBack_65 : decode cX3_turnBack 65 = .ok (.istore_n 3, 1) := by decide +kernel
theorem dX3_turnBack_66 : decode cX3_turnBack 66 = .ok (.iload_n 3, 1) := by decide +kernel
theorem dX3_turnBack_67 : decode cX3_turnBack 67 = .ok (.aload_n 0, 1) := by decide +kernel
theorem dX3_turnBack_68 : decode cX3_turnBack 68 = .ok (.getfield 32, 3) := by decide +kernel
theorem dX3_turnBack_71 : decode cX3_turnBack 71 = .ok (.if_icmp .ge 33, 3) := by decide +kernel
theorem dX3_turnBack_74 : decode cX3_turnBack 74 = .ok (.aload_n 0, 1) := by decide +kernel
theorem dX3_turnBack_75 : decode cX3_turnBack 75 = .ok (.iconst 0, 1) := by decide +kernel
theorem dX3_turnBack_76 : decode cX3_turnBack 76 = .ok (.iload_n 3, 1) := by decide +kernel
theorem dX3_turnBack_77 : decode cX3_turnBack 77 = .ok (.aload_n 0, 1) := by decide +kernel
theorem dX3_turnBack_78 : decode cX3_turnBack 78 = .ok (.iconst 4, 1) := by decide +kernel
theorem dX3_turnBack_79 : decode cX3_turnBack 79 = .ok (.iload_n 3, 1) := by decide +kernel
theorem dX3_turnBack_80 : decode cX3_turnBack 80 = .ok (.invokevirtual 101, 3) := by decide +kernel
theorem dX3_turnBack_83 : decode cX3_turnBack 83 = .ok (.invokevirtual 40, 3) := by decide +kernel
theorem dX3_turnBack_86 : decode cX3_turnBack 86 = .ok (.aload_n 0, 1) := by decide +kernel
theorem dX3_turnBack_87 : decode cX3_turnBack 87 = .ok (.iconst 1, 1) := by decide +kernel
theorem dX3_turnBack_88 : decode cX3_turnBack 88 = .ok (.iload_n 3, 1) := by decide +kernel
theorem dX3_turnBack_89 : decode cX3_turnBack 89 = .ok (.aload_n 0, 1) := by decide +kernel
theorem dX3_turnBack_90 : decode cX3_turnBack 90 = .ok (.iconst 5, 1) := by decide +kernel
theorem dX3_turnBack_91 : decode cX3_turnBack 91 = .ok (.iload_n 3, 1) := by decide +kernel
theorem dX3_turnBack_92 : decode cX3_turnBack 92 = .ok (.invokevirtual 101, 3) := by decide +kernel
theorem dX3_turnBack_95 : decode cX3_turnBack 95 = .ok (.invokevirtual 40, 3) := by decide +kernel
theorem dX3_turnBack_98 : decode cX3_turnBack 98 = .ok (.iinc 3 1, 3) := by decide +kernel
theorem dX3_turnBack_101 : decode cX3_turnBack 101 = .ok (.goto (-35), 3) := by decide +kernel
theorem dX3_turnBack_104 : decode cX3_turnBack 104 = .ok (.return_, 1) := by decide +kernel
set_option maxRecDepth 20000 in
theorem ggX3_take_X3_canBeTaken : GoodIn wsX3_take wsX3_canBeTaken := goodIn_r _ [19, 20, 21, 22, 23, 24, 25, 18, 26, 27, 28, 29, 30, 31, 32, 33] (by decide +kernel) (by decide +kernel)
set_option maxRecDepth 20000 in
theorem gX3_take_X3_canBeTaken : GoodIn wsX3_take (va_wsS RX3 126 yX3_canBeTaken wsX3_canBeTaken) := goodIn_app (goodIn_of _ (by decide +kernel)) ggX3_take_X3_canBeTaken
set_option maxRecDepth 20000 in
theorem ggX3_take_X3_discriminant : GoodIn wsX3_take wsX3_discriminant := goodIn_r _ [29, 30] (by decide +kernel) (by decide +kernel)
set_option maxRecDepth 20000 in
theorem gX3_take_X3_discriminant : GoodIn wsX3_take (va_wsS RX3 57 yX3_discriminant wsX3_discriminant) := goodIn_app (goodIn_of _ (by decide +kernel)) ggX3_take_X3_discriminant
set_option maxRecDepth 20000 in
theorem ggX3_take_X3_wholeRoot : GoodIn wsX3_take wsX3_wholeRoot := goodIn_r _ [33] (by decide +kernel) (by decide +kernel)
set_option maxRecDepth 20000 in
theorem gX3_take_X3_wholeRoot : GoodIn wsX3_take (va_wsS RX3 65 yX3_wholeRoot wsX3_wholeRoot) := goodIn_app (goodIn_of _ (by decide +kernel)) ggX3_take_X3_wholeRoot
set_option maxRecDepth 20000 in
theorem ggX3_take_X3_begin : GoodIn wsX3_take wsX3_begin := goodIn_r _ [37, 8, 10, 12, 97, 98, 99, 100, 101, 102, 103, 104, 105, 106, 107, 108, 109, 110, 111] (by decide +kernel) (by decide +kernel)
set_option maxRecDepth 20000 in
theorem gX3_take_X3_begin : GoodIn wsX3_take (wsV RX3 97 RX3 yX3_begin wsX3_begin) := goodIn_app (goodIn_of _ (by decide +kernel)) ggX3_take_X3_begin
set_option maxRecDepth 20000 in
theorem ggX3_take_X3_toReduced : GoodIn wsX3_take wsX3_toReduced := goodIn_r _ [41, 42, 43, 44, 18, 45, 10, 8, 12, 46, 47, 48, 49, 50, 51, 52, 53, 15, 30, 97, 98, 99, 100, 101, 102, 103, 104, 105, 106, 107, 108, 109, 110, 111] (by decide +kernel) (by decide +kernel)
set_option maxRecDepth 20000 in
theorem gX3_take_X3_toReduced : GoodIn wsX3_take (wsV RX3 132 RX3 yX3_toReduced wsX3_toReduced) := goodIn_app (goodIn_of _ (by decide +kernel)) ggX3_take_X3_toReduced
set_option maxRecDepth 20000 in
theorem ggX3_take_X3_toName : GoodIn wsX3_take wsX3_toName := goodIn_r _ [57, 8, 10, 12, 50, 51, 52, 18, 53, 46, 15, 30, 47, 48, 49, 34, 35, 36, 37, 97, 98, 99, 100, 101, 102, 103, 104, 105, 106, 107, 108, 109, 110, 111] (by decide +kernel) (by decide +kernel)
set_option maxRecDepth 20000 in
theorem gX3_take_X3_toName : GoodIn wsX3_take (wsV RX3 135 RX3 yX3_toName wsX3_toName) := goodIn_app (goodIn_of _ (by decide +kernel)) ggX3_take_X3_toName
set_option maxRecDepth 20000 in
theorem ggX3_take_X3_put : GoodIn wsX3_take wsX3_put := goodIn_r _ [61, 62, 97, 98, 99, 100, 101, 102, 103, 104, 105, 106, 107, 108, 109, 110, 111] (by decide +kernel) (by decide +kernel)
set_option maxRecDepth 20000 in
theorem gX3_take_X3_put : GoodIn wsX3_take (wsV RX3 40 RX3 yX3_put wsX3_put) := goodIn_app (goodIn_of _ (by decide +kernel)) ggX3_take_X3_put
set_option maxRecDepth 20000 in
theorem ggX3_take_X3_isReduced : GoodIn wsX3_take wsX3_isReduced := goodIn_r _ [45, 10, 8, 12, 46, 47, 48, 18, 49, 97, 98, 99, 100, 101, 102, 103, 104, 105, 106, 107, 108, 109, 110, 111] (by decide +kernel) (by decide +kernel)
set_option maxRecDepth 20000 in
theorem gX3_take_X3_isReduced : GoodIn wsX3_take (wsV RX3 86 RX3 yX3_isReduced wsX3_isReduced) := goodIn_app (goodIn_of _ (by decide +kernel)) ggX3_take_X3_isReduced
set_option maxRecDepth 20000 in
theorem ggX3_take_X3_isName : GoodIn wsX3_take wsX3_isName := goodIn_r _ [66, 8, 9, 10, 11, 97, 98, 99, 100, 101, 102, 103, 104, 105, 106, 107, 108, 109, 110, 111] (by decide +kernel) (by decide +kernel)
set_option maxRecDepth 20000 in
theorem gX3_take_X3_isName : GoodIn wsX3_take (wsV RX3 138 RX3 yX3_isName wsX3_isName) := goodIn_app (goodIn_of _ (by decide +kernel)) ggX3_take_X3_isName
set_option maxRecDepth 20000 in
theorem ggX3_take_X3_step : GoodIn wsX3_take wsX3_step := goodIn_r _ [53, 46, 12, 10, 15, 30, 8, 47, 48, 18, 49, 97, 98, 99, 100, 101, 102, 103, 104, 105, 106, 107, 108, 109, 110, 111] (by decide +kernel) (by decide +kernel)
set_option maxRecDepth 20000 in
theorem gX3_take_X3_step : GoodIn wsX3_take (wsV RX3 90 RX3 yX3_step wsX3_step) := goodIn_app (goodIn_of _ (by decide +kernel)) ggX3_take_X3_step
set_option maxRecDepth 20000 in
theorem ggX3_take_X3_turnBack : GoodIn wsX3_take wsX3_turnBack := goodIn_r _ [70, 14, 71, 72, 73, 18, 74, 75, 76, 77, 78, 79, 80, 81, 82, 83, 62, 84, 85, 86, 87, 58, 59, 60, 61, 88, 89, 90, 91, 92, 93, 94, 95, 96, 97, 98, 99, 100, 101, 102, 103, 104, 105, 106, 107, 108, 109, 110, 111] (by decide +kernel) (by decide +kernel)
set_option maxRecDepth 20000 in
theorem gX3_take_X3_turnBack : GoodIn wsX3_take (wsV RX3 142 RX3 yX3_turnBack wsX3_turnBack) := goodIn_app (goodIn_of _ (by decide +kernel)) ggX3_take_X3_turnBack
theorem dX3_take_0 : decode cX3_take 0 = .ok (.aload_n 0, 1) := by decide +kernel
theorem dX3_take_1 : decode cX3_take 1 = .ok (.iload_n 1, 1) := by decide +kernel
theorem dX3_take_2 : decode cX3_take 2 = .ok (.i2l, 1) := by decide +kernel
theorem dX3_take_3 : decode cX3_take 3 = .ok (.iload_n 2, 1) := by decide +kernel
theorem dX3_take_4 : decode cX3_take 4 = .ok (.i2l, 1) := by decide +kernel
theorem dX3_take_5 : decode cX3_take 5 = .ok (.iload_n 3, 1) := by decide +kernel
theorem dX3_take_6 : decode cX3_take 6 = .ok (.i2l, 1) := by decide +kernel
theorem dX3_take_7 : decode cX3_take 7 = .ok (.invokestatic 126, 3) := by decide +kernel
theorem dX3_take_10 : decode cX3_take 10 = .ok (.ifCond .eq 7, 3) := by decide +kernel
theorem dX3_take_13 : decode cX3_take 13 = .ok (.iconst 0, 1) := by decide +kernel
theorem dX3_take_14 : decode cX3_take 14 = .ok (.goto 4, 3) := by decide +kernel
theorem dX3_take_17 : decode cX3_take 17 = .ok (.iconst 1, 1) := by decide +kernel
theorem dX3_take_18 : decode cX3_take 18 = .ok (.putfield 44, 3) := by decide +kernel
theorem dX3_take_21 : decode cX3_take 21 = .ok (.aload_n 0, 1) := by decide +kernel
theorem dX3_take_22 : decode cX3_take 22 = .ok (.getfield 44, 3) := by decide +kernel
theorem dX3_take_25 : decode cX3_take 25 = .ok (.ifCond .le 5, 3) := by decide +kernel
theorem dX3_take_28 : decode cX3_take 28 = .ok (.iconst 0, 1) := by decide +kernel
theorem dX3_take_29 : decode cX3_take 29 = .ok (.ireturn, 1) := by decide +kernel
theorem dX3_take_30 : decode cX3_take 30 = .ok (.aload_n 0, 1) := by decide +kernel
theorem dX3_take_31 : decode cX3_take 31 = .ok (.iload_n 1, 1) := by decide +kernel
theorem dX3_take_32 : decode cX3_take 32 = .ok (.i2l, 1) := by decide +kernel
theorem dX3_take_33 : decode cX3_take 33 = .ok (.putfield 7, 3) := by decide +kernel
theorem dX3_take_36 : decode cX3_take 36 = .ok (.aload_n 0, 1) := by decide +kernel
theorem dX3_take_37 : decode cX3_take 37 = .ok (.iload_n 2, 1) := by decide +kernel
theorem dX3_take_38 : decode cX3_take 38 = .ok (.i2l, 1) := by decide +kernel
theorem dX3_take_39 : decode cX3_take 39 = .ok (.putfield 129, 3) := by decide +kernel
theorem dX3_take_42 : decode cX3_take 42 = .ok (.aload_n 0, 1) := by decide +kernel
theorem dX3_take_43 : decode cX3_take 43 = .ok (.iload_n 3, 1) := by decide +kernel
theorem dX3_take_44 : decode cX3_take 44 = .ok (.i2l, 1) := by decide +kernel
theorem dX3_take_45 : decode cX3_take 45 = .ok (.putfield 13, 3) := by decide +kernel
theorem dX3_take_48 : decode cX3_take 48 = .ok (.aload_n 0, 1) := by decide +kernel
theorem dX3_take_49 : decode cX3_take 49 = .ok (.aload_n 0, 1) := by decide +kernel
theorem dX3_take_50 : decode cX3_take 50 = .ok (.getfield 7, 3) := by decide +kernel
theorem dX3_take_53 : decode cX3_take 53 = .ok (.aload_n 0, 1) := by decide +kernel
theorem dX3_take_54 : decode cX3_take 54 = .ok (.getfield 129, 3) := by decide +kernel
theorem dX3_take_57 : decode cX3_take 57 = .ok (.aload_n 0, 1) := by decide +kernel
theorem dX3_take_58 : decode cX3_take 58 = .ok (.getfield 13, 3) := by decide +kernel
theorem dX3_take_61 : decode cX3_take 61 = .ok (.invokestatic 57, 3) := by decide +kernel
theorem dX3_take_64 : decode cX3_take 64 = .ok (.putfield 18, 3) := by decide +kernel
theorem dX3_take_67 : decode cX3_take 67 = .ok (.aload_n 0, 1) := by decide +kernel
theorem dX3_take_68 : decode cX3_take 68 = .ok (.aload_n 0, 1) := by decide +kernel
theorem dX3_take_69 : decode cX3_take 69 = .ok (.getfield 18, 3) := by decide +kernel
theorem dX3_take_72 : decode cX3_take 72 = .ok (.lconst 0, 1) := by decide +kernel
theorem dX3_take_73 : decode cX3_take 73 = .ok (.lcmp, 1) := by decide +kernel
theorem dX3_take_74 : decode cX3_take 74 = .ok (.ifCond .ge 9, 3) := by decide +kernel
theorem dX3_take_77 : decode cX3_take 77 = .ok (.ldc2_w 21, 3) := by decide +kernel
theorem dX3_take_80 : decode cX3_take 80 = .ok (.goto 10, 3) := by decide +kernel
theorem dX3_take_83 : decode cX3_take 83 = .ok (.aload_n 0, 1) := by decide +kernel
theorem dX3_take_84 : decode cX3_take 84 = .ok (.getfield 18, 3) := by decide +kernel
theorem dX3_take_87 : decode cX3_take 87 = .ok (.invokestatic 65, 3) := by decide +kernel
theorem dX3_take_90 : decode cX3_take 90 = .ok (.putfield 23, 3) := by decide +kernel
theorem dX3_take_93 : decode cX3_take 93 = .ok (.aload_n 0, 1) := by decide +kernel
theorem dX3_take_94 : decode cX3_take 94 = .ok (.aload_n 0, 1) := by decide +kernel
theorem dX3_take_95 : decode cX3_take 95 = .ok (.getfield 7, 3) := by decide +kernel
theorem dX3_take_98 : decode cX3_take 98 = .ok (.aload_n 0, 1) := by decide +kernel
theorem dX3_take_99 : decode cX3_take 99 = .ok (.getfield 129, 3) := by decide +kernel
theorem dX3_take_102 : decode cX3_take 102 = .ok (.aload_n 0, 1) := by decide +kernel
theorem dX3_take_103 : decode cX3_take 103 = .ok (.getfield 13, 3) := by decide +kernel
theorem dX3_take_106 : decode cX3_take 106 = .ok (.invokevirtual 97, 3) := by decide +kernel
theorem dX3_take_109 : decode cX3_take 109 = .ok (.aload_n 0, 1) := by decide +kernel
theorem dX3_take_110 : decode cX3_take 110 = .ok (.aload_n 0, 1) := by decide +kernel
theorem dX3_take_111 : decode cX3_take 111 = .ok (.getfield 18, 3) := by decide +kernel
theorem dX3_take_114 : decode cX3_take 114 = .ok (.aload_n 0, 1) := by decide +kernel
theorem dX3_take_115 : decode cX3_take 115 = .ok (.getfield 23, 3) := by decide +kernel
theorem dX3_take_118 : decode cX3_take 118 = .ok (.invokevirtual 132, 3) := by decide +kernel
theorem dX3_take_121 : decode cX3_take 121 = .ok (.aload_n 0, 1) := by decide +kernel
theorem dX3_take_122 : decode cX3_take 122 = .ok (.aload_n 0, 1) := by decide +kernel
theorem dX3_take_123 : decode cX3_take 123 = .ok (.getfield 18, 3) := by decide +kernel
theorem dX3_take_126 : decode cX3_take 126 = .ok (.aload_n 0, 1) := by decide +kernel
theorem dX3_take_127 : decode cX3_take 127 = .ok (.getfield 23, 3) := by decide +kernel
theorem dX3_take_130 : decode cX3_take 130 = .ok (.invokevirtual 135, 3) := by decide +kernel
theorem dX3_take_133 : decode cX3_take 133 = .ok (.aload_n 0, 1) := by decide +kernel
theorem dX3_take_134 : decode cX3_take 134 = .ok (.aload_n 0, 1) := by decide +kernel
theorem dX3_take_135 : decode cX3_take 135 = .ok (.getfield 69, 3) := by decide +kernel
theorem dX3_take_138 : decode cX3_take 138 = .ok (.putfield 26, 3) := by decide +kernel
theorem dX3_take_141 : decode cX3_take 141 = .ok (.aload_n 0, 1) := by decide +kernel
theorem dX3_take_142 : decode cX3_take 142 = .ok (.aload_n 0, 1) := by decide +kernel
theorem dX3_take_143 : decode cX3_take 143 = .ok (.getfield 72, 3) := by decide +kernel
theorem dX3_take_146 : decode cX3_take 146 = .ok (.putfield 94, 3) := by decide +kernel
theorem dX3_take_149 : decode cX3_take 149 = .ok (.aload_n 0, 1) := by decide +kernel
theorem dX3_take_150 : decode cX3_take 150 = .ok (.aload_n 0, 1) := by decide +kernel
theorem dX3_take_151 : decode cX3_take 151 = .ok (.getfield 75, 3) := by decide +kernel
theorem dX3_take_154 : decode cX3_take 154 = .ok (.putfield 29, 3) := by decide +kernel
theorem dX3_take_157 : decode cX3_take 157 = .ok (.aload_n 0, 1) := by decide +kernel
theorem dX3_take_158 : decode cX3_take 158 = .ok (.iconst 4, 1) := by decide +kernel
theorem dX3_take_159 : decode cX3_take 159 = .ok (.putfield 32, 3) := by decide +kernel
theorem dX3_take_162 : decode cX3_take 162 = .ok (.iconst 0, 1) := by decide +kernel
theorem dX3_take_163 : decode cX3_take 163 = .ok (.istore 4, 2) := by decide +kernel
theorem dX3_take_165 : decode cX3_take 165 = .ok (.iload 4, 2) := by decide +kernel
theorem dX3_take_167 : decode cX3_take 167 = .ok (.iconst 4, 1) := by decide +kernel
theorem dX3_take_168 : decode cX3_take 168 = .ok (.if_icmp .ge 56, 3) := by decide +kernel
theorem dX3_take_171 : decode cX3_take 171 = .ok (.iconst 0, 1) := by decide +kernel
theorem dX3_take_172 : decode cX3_take 172 = .ok (.istore 5, 2) := by decide +kernel
theorem dX3_take_174 : decode cX3_take 174 = .ok (.iload 5, 2) := by decide +kernel
theorem dX3_take_176 : decode cX3_take 176 = .ok (.aload_n 0, 1) := by decide +kernel
theorem dX3_take_177 : decode cX3_take 177 = .ok (.getfield 32, 3) := by decide +kernel
theorem dX3_take_180 : decode cX3_take 180 = .ok (.if_icmp .ge 38, 3) := by decide +kernel
theorem dX3_take_183 : decode cX3_take 183 = .ok (.aload_n 0, 1) := by decide +kernel
theorem dX3_take_184 : decode cX3_take 184 = .ok (.iload 4, 2) := by decide +kernel
theorem dX3_take_186 : decode cX3_take 186 = .ok (.iload 5, 2) := by decide +kernel
theorem dX3_take_188 : decode cX3_take 188 = .ok (.iload 5, 2) := by decide +kernel
theorem dX3_take_190 : decode cX3_take 190 = .ok (.ifCond .ne 18, 3) := by decide +kernel
theorem dX3_take_193 : decode cX3_take 193 = .ok (.iload 4, 2) := by decide +kernel
theorem dX3_take_195 : decode cX3_take 195 = .ok (.ifCond .eq 9, 3) := by decide +kernel
theorem dX3_take_198 : decode cX3_take 198 = .ok (.iload 4, 2) := by decide +kernel
theorem dX3_take_200 : decode cX3_take 200 = .ok (.iconst 3, 1) := by decide +kernel
theorem dX3_take_201 : decode cX3_take 201 = .ok (.if_icmp .ne 7, 3) := by decide +kernel
theorem dX3_take_204 : decode cX3_take 204 = .ok (.iconst 1, 1) := by decide +kernel
theorem dX3_take_205 : decode cX3_take 205 = .ok (.goto 4, 3) := by decide +kernel
theorem dX3_take_208 : decode cX3_take 208 = .ok (.iconst 0, 1) := by decide +kernel
theorem dX3_take_209 : decode cX3_take 209 = .ok (.invokevirtual 40, 3) := by decide +kernel
theorem dX3_take_212 : decode cX3_take 212 = .ok (.iinc 5 1, 3) := by decide +kernel
theorem dX3_take_215 : decode cX3_take 215 = .ok (.goto (-41), 3) := by decide +kernel
theorem dX3_take_218 : decode cX3_take 218 = .ok (.iinc 4 1, 3) := by decide +kernel
theorem dX3_take_221 : decode cX3_take 221 = .ok (.goto (-56), 3) := by decide +kernel
theorem dX3_take_224 : decode cX3_take 224 = .ok (.aload_n 0, 1) := by decide +kernel
theorem dX3_take_225 : decode cX3_take 225 = .ok (.aload_n 0, 1) := by decide +kernel
theorem dX3_take_226 : decode cX3_take 226 = .ok (.getfield 7, 3) := by decide +kernel
theorem dX3_take_229 : decode cX3_take 229 = .ok (.aload_n 0, 1) := by decide +kernel
theorem dX3_take_230 : decode cX3_take 230 = .ok (.getfield 129, 3) := by decide +kernel
theorem dX3_take_233 : decode cX3_take 233 = .ok (.aload_n 0, 1) := by decide +kernel
theorem dX3_take_234 : decode cX3_take 234 = .ok (.getfield 13, 3) := by decide +kernel
theorem dX3_take_237 : decode cX3_take 237 = .ok (.invokevirtual 97, 3) := by decide +kernel
theorem dX3_take_240 : decode cX3_take 240 = .ok (.aload_n 0, 1) := by decide +kernel
theorem dX3_take_241 : decode cX3_take 241 = .ok (.aload_n 0, 1) := by decide +kernel
theorem dX3_take_242 : decode cX3_take 242 = .ok (.getfield 18, 3) := by decide +kernel
theorem dX3_take_245 : decode cX3_take 245 = .ok (.aload_n 0, 1) := by decide +kernel
theorem dX3_take_246 : decode cX3_take 246 = .ok (.getfield 23, 3) := by decide +kernel
theorem dX3_take_249 : decode cX3_take 249 = .ok (.invokevirtual 86, 3) := by decide +kernel
theorem dX3_take_252 : decode cX3_take 252 = .ok (.ifCond .eq 14, 3) := by decide +kernel
theorem dX3_take_255 : decode cX3_take 255 = .ok (.aload_n 0, 1) := by decide +kernel
theorem dX3_take_256 : decode cX3_take 256 = .ok (.invokevirtual 138, 3) := by decide +kernel
theorem dX3_take_259 : decode cX3_take 259 = .ok (.ifCond .eq 7, 3) := by decide +kernel
theorem dX3_take_262 : decode cX3_take 262 = .ok (.iconst 1, 1) := by decide +kernel
theorem dX3_take_263 : decode cX3_take 263 = .ok (.goto 4, 3) := by decide +kernel
theorem dX3_take_266 : decode cX3_take 266 = .ok (.iconst 0, 1) := by decide +kernel
theorem dX3_take_267 : decode cX3_take 267 = .ok (.istore 4, 2) := by decide +kernel
theorem dX3_take_269 : decode cX3_take 269 = .ok (.iload 4, 2) := by decide +kernel
theorem dX3_take_271 : decode cX3_take 271 = .ok (.ifCond .ne 55, 3) := by decide +kernel
theorem dX3_take_274 : decode cX3_take 274 = .ok (.aload_n 0, 1) := by decide +kernel
theorem dX3_take_275 : decode cX3_take 275 = .ok (.aload_n 0, 1) := by decide +kernel
theorem dX3_take_276 : decode cX3_take 276 = .ok (.getfield 18, 3) := by decide +kernel
theorem dX3_take_279 : decode cX3_take 279 = .ok (.aload_n 0, 1) := by decide +kernel
theorem dX3_take_280 : decode cX3_take 280 = .ok (.getfield 23, 3) := by decide +kernel
theorem dX3_take_283 : decode cX3_take 283 = .ok (.invokevirtual 90, 3) := by decide +kernel
theorem dX3_take_286 : decode cX3_take 286 = .ok (.aload_n 0, 1) := by decide +kernel
theorem dX3_take_287 : decode cX3_take 287 = .ok (.aload_n 0, 1) := by decide +kernel
theorem dX3_take_288 : decode cX3_take 288 = .ok (.getfield 83, 3) := by decide +kernel
theorem dX3_take_291 : decode cX3_take 291 = .ok (.invokevirtual 142, 3) := by decide +kernel
theorem dX3_take_294 : decode cX3_take 294 = .ok (.aload_n 0, 1) := by decide +kernel
theorem dX3_take_295 : decode cX3_take 295 = .ok (.aload_n 0, 1) := by decide +kernel
theorem dX3_take_296 : decode cX3_take 296 = .ok (.getfield 18, 3) := by decide +kernel
theorem dX3_take_299 : decode cX3_take 299 = .ok (.aload_n 0, 1) := by decide +kernel
theorem dX3_take_300 : decode cX3_take 300 = .ok (.getfield 23, 3) := by decide +kernel
theorem dX3_take_303 : decode cX3_take 303 = .ok (.invokevirtual 86, 3) := by decide +kernel
theorem dX3_take_306 : decode cX3_take 306 = .ok (.ifCond .eq 14, 3) := by decide +kernel
theorem dX3_take_309 : decode cX3_take 309 = .ok (.aload_n 0, 1) := by decide +kernel
theorem dX3_take_310 : decode cX3_take 310 = .ok (.invokevirtual 138, 3) := by decide +kernel
theorem dX3_take_313 : decode cX3_take 313 = .ok (.ifCond .eq 7, 3) := by decide +kernel
theorem dX3_take_316 : decode cX3_take 316 = .ok (.iconst 1, 1) := by decide +kernel
theorem dX3_take_317 : decode cX3_take 317 = .ok (.goto 4, 3) := by decide +kernel
theorem dX3_take_320 : decode cX3_take 320 = .ok (.iconst 0, 1) := by decide +kernel
theorem dX3_take_321 : decode cX3_take 321 = .ok (.istore 4, 2) := by decide +kernel
theorem dX3_take_323 : decode cX3_take 323 = .ok (.goto (-54), 3) := by decide +kernel
theorem dX3_take_326 : decode cX3_take 326 = .ok (.aload_n 0, 1) := by decide +kernel
theorem dX3_take_327 : decode cX3_take 327 = .ok (.getfield 18, 3) := by decide +kernel
theorem dX3_take_330 : decode cX3_take 330 = .ok (.l2i, 1) := by decide +kernel
theorem dX3_take_331 : decode cX3_take 331 = .ok (.ireturn, 1) := by decide +kernel
theorem dX3_part_0 : decode cX3_part 0 = .ok (.iload_n 0, 1) := by decide +kernel
theorem dX3_part_1 : decode cX3_part 1 = .ok (.ifCond .ne 7, 3) := by decide +kernel
theorem dX3_part_4 : decode cX3_part 4 = .ok (.lload_n 1, 1) := by decide +kernel
theorem dX3_part_5 : decode cX3_part 5 = .ok (.goto 14, 3) := by decide +kernel
theorem dX3_part_8 : decode cX3_part 8 = .ok (.iload_n 0, 1) := by decide +kernel
theorem dX3_part_9 : decode cX3_part 9 = .ok (.iconst 1, 1) := by decide +kernel
theorem dX3_part_10 : decode cX3_part 10 = .ok (.if_icmp .ne 7, 3) := by decide +kernel
theorem dX3_part_13 : decode cX3_part 13 = .ok (.lload_n 3, 1) := by decide +kernel
theorem dX3_part_14 : decode cX3_part 14 = .ok (.goto 5, 3) := by decide +kernel
theorem dX3_part_17 : decode cX3_part 17 = .ok (.lload 5, 2) := by decide +kernel
theorem dX3_part_19 : decode cX3_part 19 = .ok (.l2i, 1) := by decide +kernel
theorem dX3_part_20 : decode cX3_part 20 = .ok (.ireturn, 1) := by decide +kernel
set_option maxRecDepth 20000 in
theorem ggX3_form_X3_in : GoodIn wsX3_form wsX3_in := goodIn_r _ [17] (by decide +kernel) (by decide +kernel)
set_option maxRecDepth 20000 in
theorem gX3_form_X3_in : GoodIn wsX3_form (va_wsS RX3 53 yX3_in wsX3_in) := goodIn_app (goodIn_of _ (by decide +kernel)) ggX3_form_X3_in
set_option maxRecDepth 20000 in
theorem ggX3_form_X3_part : GoodIn wsX3_form wsX3_part := goodIn_r _ [20] (by decide +kernel) (by decide +kernel)
set_option maxRecDepth 20000 in
theorem gX3_form_X3_part : GoodIn wsX3_form (va_wsS RX3 146 yX3_part wsX3_part) := goodIn_app (goodIn_of _ (by decide +kernel)) ggX3_form_X3_part
set_option maxRecDepth 20000 in
theorem ggX3_form_X3_begin : GoodIn wsX3_form wsX3_begin := goodIn_r _ [24, 11, 12, 13, 42, 43, 44, 45, 46, 47, 48, 49, 50, 51, 52, 53, 54, 55, 56] (by decide +kernel) (by decide +kernel)
set_option maxRecDepth 20000 in
theorem gX3_form_X3_begin : GoodIn wsX3_form (wsV RX3 97 RX3 yX3_begin wsX3_begin) := goodIn_app (goodIn_of _ (by decide +kernel)) ggX3_form_X3_begin
set_option maxRecDepth 20000 in
theorem ggX3_form_X3_toReduced : GoodIn wsX3_form wsX3_toReduced := goodIn_r _ [28, 29, 30, 31, 16, 32, 12, 11, 13, 1, 33, 34, 35, 36, 37, 38, 39, 40, 41, 42, 43, 44, 45, 46, 47, 48, 49, 50, 51, 52, 53, 54, 55, 56] (by decide +kernel) (by decide +kernel)
set_option maxRecDepth 20000 in
theorem gX3_form_X3_toReduced : GoodIn wsX3_form (wsV RX3 132 RX3 yX3_toReduced wsX3_toReduced) := goodIn_app (goodIn_of _ (by decide +kernel)) ggX3_form_X3_toReduced
theorem dX3_form_0 : decode cX3_form 0 = .ok (.aload_n 0, 1) := by decide +kernel
theorem dX3_form_1 : decode cX3_form 1 = .ok (.iload_n 1, 1) := by decide +kernel
theorem dX3_form_2 : decode cX3_form 2 = .ok (.i2l, 1) := by decide +kernel
theorem dX3_form_3 : decode cX3_form 3 = .ok (.lconst 0, 1) := by decide +kernel
theorem dX3_form_4 : decode cX3_form 4 = .ok (.ldc2_w 81, 3) := by decide +kernel
theorem dX3_form_7 : decode cX3_form 7 = .ok (.invokestatic 53, 3) := by decide +kernel
theorem dX3_form_10 : decode cX3_form 10 = .ok (.ifCond .eq 19, 3) := by decide +kernel
theorem dX3_form_13 : decode cX3_form 13 = .ok (.iload_n 2, 1) := by decide +kernel
theorem dX3_form_14 : decode cX3_form 14 = .ok (.i2l, 1) := by decide +kernel
theorem dX3_form_15 : decode cX3_form 15 = .ok (.lconst 0, 1) := by decide +kernel
theorem dX3_form_16 : decode cX3_form 16 = .ok (.ldc2_w 81, 3) := by decide +kernel
theorem dX3_form_19 : decode cX3_form 19 = .ok (.invokestatic 53, 3) := by decide +kernel
theorem dX3_form_22 : decode cX3_form 22 = .ok (.ifCond .eq 7, 3) := by decide +kernel
theorem dX3_form_25 : decode cX3_form 25 = .ok (.iconst 0, 1) := by decide +kernel
theorem dX3_form_26 : decode cX3_form 26 = .ok (.goto 4, 3) := by decide +kernel
theorem dX3_form_29 : decode cX3_form 29 = .ok (.iconst 1, 1) := by decide +kernel
theorem dX3_form_30 : decode cX3_form 30 = .ok (.putfield 44, 3) := by decide +kernel
theorem dX3_form_33 : decode cX3_form 33 = .ok (.aload_n 0, 1) := by decide +kernel
theorem dX3_form_34 : decode cX3_form 34 = .ok (.getfield 44, 3) := by decide +kernel
theorem dX3_form_37 : decode cX3_form 37 = .ok (.ifCond .le 5, 3) := by decide +kernel
theorem dX3_form_40 : decode cX3_form 40 = .ok (.iconst 0, 1) := by decide +kernel
theorem dX3_form_41 : decode cX3_form 41 = .ok (.ireturn, 1) := by decide +kernel
theorem dX3_form_42 : decode cX3_form 42 = .ok (.iload_n 1, 1) := by decide +kernel
theorem dX3_form_43 : decode cX3_form 43 = .ok (.iconst 2, 1) := by decide +kernel
theorem dX3_form_44 : decode cX3_form 44 = .ok (.if_icmp .ne 20, 3) := by decide +kernel
theorem dX3_form_47 : decode cX3_form 47 = .ok (.iload_n 2, 1) := by decide +kernel
theorem dX3_form_48 : decode cX3_form 48 = .ok (.aload_n 0, 1) := by decide +kernel
theorem dX3_form_49 : decode cX3_form 49 = .ok (.getfield 26, 3) := by decide +kernel
theorem dX3_form_52 : decode cX3_form 52 = .ok (.aload_n 0, 1) := by decide +kernel
