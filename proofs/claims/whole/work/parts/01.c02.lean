set_option maxRecDepth 20000 in
theorem gX1_multiplyWaiting_X1_multiplyColumn : GoodIn wsX1_multiplyWaiting (wsV RX1 71 RX1 yX1_multiplyColumn wsX1_multiplyColumn) := goodIn_app (goodIn_of _ (by decide +kernel)) ggX1_multiplyWaiting_X1_multiplyColumn
set_option maxRecDepth 20000 in
theorem ggX1_multiplyWaiting_X1_shorten : GoodIn wsX1_multiplyWaiting wsX1_shorten := goodIn_r _ [20, 7, 1, 25, 26, 27, 28, 29, 30, 31] (by decide +kernel) (by decide +kernel)
set_option maxRecDepth 20000 in
theorem gX1_multiplyWaiting_X1_shorten : GoodIn wsX1_multiplyWaiting (wsV RX1 75 RX1 yX1_shorten wsX1_shorten) := goodIn_app (goodIn_of _ (by decide +kernel)) ggX1_multiplyWaiting_X1_shorten
set_option maxRecDepth 20000 in
theorem ggX1_multiplyWaiting_X1_forgetWaiting : GoodIn wsX1_multiplyWaiting wsX1_forgetWaiting := goodIn_r _ [24, 13, 14, 15, 16, 25, 26, 27, 28, 29, 30, 31] (by decide +kernel) (by decide +kernel)
set_option maxRecDepth 20000 in
theorem gX1_multiplyWaiting_X1_forgetWaiting : GoodIn wsX1_multiplyWaiting (wsV RX1 27 RX1 yX1_forgetWaiting wsX1_forgetWaiting) := goodIn_app (goodIn_of _ (by decide +kernel)) ggX1_multiplyWaiting_X1_forgetWaiting
theorem dX1_multiplyWaiting_0 : decode cX1_multiplyWaiting 0 = .ok (.aload_n 0, 1) := by decide +kernel
theorem dX1_multiplyWaiting_1 : decode cX1_multiplyWaiting 1 = .ok (.invokevirtual 68, 3) := by decide +kernel
theorem dX1_multiplyWaiting_4 : decode cX1_multiplyWaiting 4 = .ok (.aload_n 0, 1) := by decide +kernel
theorem dX1_multiplyWaiting_5 : decode cX1_multiplyWaiting 5 = .ok (.aload_n 0, 1) := by decide +kernel
theorem dX1_multiplyWaiting_6 : decode cX1_multiplyWaiting 6 = .ok (.getfield 13, 3) := by decide +kernel
theorem dX1_multiplyWaiting_9 : decode cX1_multiplyWaiting 9 = .ok (.iconst 0, 1) := by decide +kernel
theorem dX1_multiplyWaiting_10 : decode cX1_multiplyWaiting 10 = .ok (.aaload, 1) := by decide +kernel
theorem dX1_multiplyWaiting_11 : decode cX1_multiplyWaiting 11 = .ok (.aload_n 0, 1) := by decide +kernel
theorem dX1_multiplyWaiting_12 : decode cX1_multiplyWaiting 12 = .ok (.getfield 13, 3) := by decide +kernel
theorem dX1_multiplyWaiting_15 : decode cX1_multiplyWaiting 15 = .ok (.iconst 2, 1) := by decide +kernel
theorem dX1_multiplyWaiting_16 : decode cX1_multiplyWaiting 16 = .ok (.aaload, 1) := by decide +kernel
theorem dX1_multiplyWaiting_17 : decode cX1_multiplyWaiting 17 = .ok (.invokevirtual 71, 3) := by decide +kernel
theorem dX1_multiplyWaiting_20 : decode cX1_multiplyWaiting 20 = .ok (.aload_n 0, 1) := by decide +kernel
theorem dX1_multiplyWaiting_21 : decode cX1_multiplyWaiting 21 = .ok (.aload_n 0, 1) := by decide +kernel
theorem dX1_multiplyWaiting_22 : decode cX1_multiplyWaiting 22 = .ok (.getfield 13, 3) := by decide +kernel
theorem dX1_multiplyWaiting_25 : decode cX1_multiplyWaiting 25 = .ok (.iconst 1, 1) := by decide +kernel
theorem dX1_multiplyWaiting_26 : decode cX1_multiplyWaiting 26 = .ok (.aaload, 1) := by decide +kernel
theorem dX1_multiplyWaiting_27 : decode cX1_multiplyWaiting 27 = .ok (.aload_n 0, 1) := by decide +kernel
theorem dX1_multiplyWaiting_28 : decode cX1_multiplyWaiting 28 = .ok (.getfield 13, 3) := by decide +kernel
theorem dX1_multiplyWaiting_31 : decode cX1_multiplyWaiting 31 = .ok (.iconst 3, 1) := by decide +kernel
theorem dX1_multiplyWaiting_32 : decode cX1_multiplyWaiting 32 = .ok (.aaload, 1) := by decide +kernel
theorem dX1_multiplyWaiting_33 : decode cX1_multiplyWaiting 33 = .ok (.invokevirtual 71, 3) := by decide +kernel
theorem dX1_multiplyWaiting_36 : decode cX1_multiplyWaiting 36 = .ok (.aload_n 0, 1) := by decide +kernel
theorem dX1_multiplyWaiting_37 : decode cX1_multiplyWaiting 37 = .ok (.invokevirtual 75, 3) := by decide +kernel
theorem dX1_multiplyWaiting_40 : decode cX1_multiplyWaiting 40 = .ok (.aload_n 0, 1) := by decide +kernel
theorem dX1_multiplyWaiting_41 : decode cX1_multiplyWaiting 41 = .ok (.invokevirtual 27, 3) := by decide +kernel
theorem dX1_multiplyWaiting_44 : decode cX1_multiplyWaiting 44 = .ok (.return_, 1) := by decide +kernel
theorem dX1_multiplyColumn_0 : decode cX1_multiplyColumn 0 = .ok (.lconst 0, 1) := by decide +kernel
theorem dX1_multiplyColumn_1 : decode cX1_multiplyColumn 1 = .ok (.lstore_n 3, 1) := by decide +kernel
theorem dX1_multiplyColumn_2 : decode cX1_multiplyColumn 2 = .ok (.lconst 0, 1) := by decide +kernel
theorem dX1_multiplyColumn_3 : decode cX1_multiplyColumn 3 = .ok (.lstore 5, 2) := by decide +kernel
theorem dX1_multiplyColumn_5 : decode cX1_multiplyColumn 5 = .ok (.iconst 0, 1) := by decide +kernel
theorem dX1_multiplyColumn_6 : decode cX1_multiplyColumn 6 = .ok (.istore 7, 2) := by decide +kernel
theorem dX1_multiplyColumn_8 : decode cX1_multiplyColumn 8 = .ok (.iload 7, 2) := by decide +kernel
theorem dX1_multiplyColumn_10 : decode cX1_multiplyColumn 10 = .ok (.aload_n 0, 1) := by decide +kernel
theorem dX1_multiplyColumn_11 : decode cX1_multiplyColumn 11 = .ok (.getfield 23, 3) := by decide +kernel
theorem dX1_multiplyColumn_14 : decode cX1_multiplyColumn 14 = .ok (.if_icmp .ge 94, 3) := by decide +kernel
theorem dX1_multiplyColumn_17 : decode cX1_multiplyColumn 17 = .ok (.aload_n 1, 1) := by decide +kernel
theorem dX1_multiplyColumn_18 : decode cX1_multiplyColumn 18 = .ok (.iload 7, 2) := by decide +kernel
theorem dX1_multiplyColumn_20 : decode cX1_multiplyColumn 20 = .ok (.iaload, 1) := by decide +kernel
theorem dX1_multiplyColumn_21 : decode cX1_multiplyColumn 21 = .ok (.i2l, 1) := by decide +kernel
theorem dX1_multiplyColumn_22 : decode cX1_multiplyColumn 22 = .ok (.ldc2_w 62, 3) := by decide +kernel
theorem dX1_multiplyColumn_25 : decode cX1_multiplyColumn 25 = .ok (.land, 1) := by decide +kernel
theorem dX1_multiplyColumn_26 : decode cX1_multiplyColumn 26 = .ok (.lstore 8, 2) := by decide +kernel
theorem dX1_multiplyColumn_28 : decode cX1_multiplyColumn 28 = .ok (.aload_n 2, 1) := by decide +kernel
theorem dX1_multiplyColumn_29 : decode cX1_multiplyColumn 29 = .ok (.iload 7, 2) := by decide +kernel
theorem dX1_multiplyColumn_31 : decode cX1_multiplyColumn 31 = .ok (.iaload, 1) := by decide +kernel
theorem dX1_multiplyColumn_32 : decode cX1_multiplyColumn 32 = .ok (.i2l, 1) := by decide +kernel
theorem dX1_multiplyColumn_33 : decode cX1_multiplyColumn 33 = .ok (.ldc2_w 62, 3) := by decide +kernel
theorem dX1_multiplyColumn_36 : decode cX1_multiplyColumn 36 = .ok (.land, 1) := by decide +kernel
theorem dX1_multiplyColumn_37 : decode cX1_multiplyColumn 37 = .ok (.lstore 10, 2) := by decide +kernel
theorem dX1_multiplyColumn_39 : decode cX1_multiplyColumn 39 = .ok (.lload_n 3, 1) := by decide +kernel
theorem dX1_multiplyColumn_40 : decode cX1_multiplyColumn 40 = .ok (.aload_n 0, 1) := by decide +kernel
theorem dX1_multiplyColumn_41 : decode cX1_multiplyColumn 41 = .ok (.getfield 30, 3) := by decide +kernel
theorem dX1_multiplyColumn_44 : decode cX1_multiplyColumn 44 = .ok (.lload 8, 2) := by decide +kernel
theorem dX1_multiplyColumn_46 : decode cX1_multiplyColumn 46 = .ok (.lmul, 1) := by decide +kernel
theorem dX1_multiplyColumn_47 : decode cX1_multiplyColumn 47 = .ok (.aload_n 0, 1) := by decide +kernel
theorem dX1_multiplyColumn_48 : decode cX1_multiplyColumn 48 = .ok (.getfield 41, 3) := by decide +kernel
theorem dX1_multiplyColumn_51 : decode cX1_multiplyColumn 51 = .ok (.lload 10, 2) := by decide +kernel
theorem dX1_multiplyColumn_53 : decode cX1_multiplyColumn 53 = .ok (.lmul, 1) := by decide +kernel
theorem dX1_multiplyColumn_54 : decode cX1_multiplyColumn 54 = .ok (.ladd, 1) := by decide +kernel
theorem dX1_multiplyColumn_55 : decode cX1_multiplyColumn 55 = .ok (.ladd, 1) := by decide +kernel
theorem dX1_multiplyColumn_56 : decode cX1_multiplyColumn 56 = .ok (.lstore_n 3, 1) := by decide +kernel
theorem dX1_multiplyColumn_57 : decode cX1_multiplyColumn 57 = .ok (.lload 5, 2) := by decide +kernel
theorem dX1_multiplyColumn_59 : decode cX1_multiplyColumn 59 = .ok (.aload_n 0, 1) := by decide +kernel
theorem dX1_multiplyColumn_60 : decode cX1_multiplyColumn 60 = .ok (.getfield 34, 3) := by decide +kernel
theorem dX1_multiplyColumn_63 : decode cX1_multiplyColumn 63 = .ok (.lload 8, 2) := by decide +kernel
theorem dX1_multiplyColumn_65 : decode cX1_multiplyColumn 65 = .ok (.lmul, 1) := by decide +kernel
theorem dX1_multiplyColumn_66 : decode cX1_multiplyColumn 66 = .ok (.aload_n 0, 1) := by decide +kernel
theorem dX1_multiplyColumn_67 : decode cX1_multiplyColumn 67 = .ok (.getfield 44, 3) := by decide +kernel
theorem dX1_multiplyColumn_70 : decode cX1_multiplyColumn 70 = .ok (.lload 10, 2) := by decide +kernel
theorem dX1_multiplyColumn_72 : decode cX1_multiplyColumn 72 = .ok (.lmul, 1) := by decide +kernel
theorem dX1_multiplyColumn_73 : decode cX1_multiplyColumn 73 = .ok (.ladd, 1) := by decide +kernel
theorem dX1_multiplyColumn_74 : decode cX1_multiplyColumn 74 = .ok (.ladd, 1) := by decide +kernel
theorem dX1_multiplyColumn_75 : decode cX1_multiplyColumn 75 = .ok (.lstore 5, 2) := by decide +kernel
theorem dX1_multiplyColumn_77 : decode cX1_multiplyColumn 77 = .ok (.aload_n 1, 1) := by decide +kernel
theorem dX1_multiplyColumn_78 : decode cX1_multiplyColumn 78 = .ok (.iload 7, 2) := by decide +kernel
theorem dX1_multiplyColumn_80 : decode cX1_multiplyColumn 80 = .ok (.lload_n 3, 1) := by decide +kernel
theorem dX1_multiplyColumn_81 : decode cX1_multiplyColumn 81 = .ok (.l2i, 1) := by decide +kernel
theorem dX1_multiplyColumn_82 : decode cX1_multiplyColumn 82 = .ok (.iastore, 1) := by decide +kernel
theorem dX1_multiplyColumn_83 : decode cX1_multiplyColumn 83 = .ok (.aload_n 2, 1) := by decide +kernel
theorem dX1_multiplyColumn_84 : decode cX1_multiplyColumn 84 = .ok (.iload 7, 2) := by decide +kernel
theorem dX1_multiplyColumn_86 : decode cX1_multiplyColumn 86 = .ok (.lload 5, 2) := by decide +kernel
theorem dX1_multiplyColumn_88 : decode cX1_multiplyColumn 88 = .ok (.l2i, 1) := by decide +kernel
theorem dX1_multiplyColumn_89 : decode cX1_multiplyColumn 89 = .ok (.iastore, 1) := by decide +kernel
theorem dX1_multiplyColumn_90 : decode cX1_multiplyColumn 90 = .ok (.lload_n 3, 1) := by decide +kernel
theorem dX1_multiplyColumn_91 : decode cX1_multiplyColumn 91 = .ok (.bipush 32, 2) := by decide +kernel
theorem dX1_multiplyColumn_93 : decode cX1_multiplyColumn 93 = .ok (.lshr, 1) := by decide +kernel
theorem dX1_multiplyColumn_94 : decode cX1_multiplyColumn 94 = .ok (.lstore_n 3, 1) := by decide +kernel
theorem dX1_multiplyColumn_95 : decode cX1_multiplyColumn 95 = .ok (.lload 5, 2) := by decide +kernel
theorem dX1_multiplyColumn_97 : decode cX1_multiplyColumn 97 = .ok (.bipush 32, 2) := by decide +kernel
theorem dX1_multiplyColumn_99 : decode cX1_multiplyColumn 99 = .ok (.lshr, 1) := by decide +kernel
theorem dX1_multiplyColumn_100 : decode cX1_multiplyColumn 100 = .ok (.lstore 5, 2) := by decide +kernel
theorem dX1_multiplyColumn_102 : decode cX1_multiplyColumn 102 = .ok (.iinc 7 1, 3) := by decide +kernel
theorem dX1_multiplyColumn_105 : decode cX1_multiplyColumn 105 = .ok (.goto (-97), 3) := by decide +kernel
theorem dX1_multiplyColumn_108 : decode cX1_multiplyColumn 108 = .ok (.return_, 1) := by decide +kernel
theorem dX1_lengthen_0 : decode cX1_lengthen 0 = .ok (.aload_n 0, 1) := by decide +kernel
theorem dX1_lengthen_1 : decode cX1_lengthen 1 = .ok (.getfield 23, 3) := by decide +kernel
theorem dX1_lengthen_4 : decode cX1_lengthen 4 = .ok (.sipush 256, 3) := by decide +kernel
theorem dX1_lengthen_7 : decode cX1_lengthen 7 = .ok (.if_icmp .lt 4, 3) := by decide +kernel
theorem dX1_lengthen_10 : decode cX1_lengthen 10 = .ok (.return_, 1) := by decide +kernel
theorem dX1_lengthen_11 : decode cX1_lengthen 11 = .ok (.iconst 0, 1) := by decide +kernel
theorem dX1_lengthen_12 : decode cX1_lengthen 12 = .ok (.istore_n 1, 1) := by decide +kernel
theorem dX1_lengthen_13 : decode cX1_lengthen 13 = .ok (.iload_n 1, 1) := by decide +kernel
theorem dX1_lengthen_14 : decode cX1_lengthen 14 = .ok (.iconst 4, 1) := by decide +kernel
theorem dX1_lengthen_15 : decode cX1_lengthen 15 = .ok (.if_icmp .ge 36, 3) := by decide +kernel
theorem dX1_lengthen_18 : decode cX1_lengthen 18 = .ok (.aload_n 0, 1) := by decide +kernel
theorem dX1_lengthen_19 : decode cX1_lengthen 19 = .ok (.getfield 13, 3) := by decide +kernel
theorem dX1_lengthen_22 : decode cX1_lengthen 22 = .ok (.iload_n 1, 1) := by decide +kernel
theorem dX1_lengthen_23 : decode cX1_lengthen 23 = .ok (.aaload, 1) := by decide +kernel
theorem dX1_lengthen_24 : decode cX1_lengthen 24 = .ok (.aload_n 0, 1) := by decide +kernel
theorem dX1_lengthen_25 : decode cX1_lengthen 25 = .ok (.getfield 23, 3) := by decide +kernel
theorem dX1_lengthen_28 : decode cX1_lengthen 28 = .ok (.aload_n 0, 1) := by decide +kernel
theorem dX1_lengthen_29 : decode cX1_lengthen 29 = .ok (.getfield 13, 3) := by decide +kernel
theorem dX1_lengthen_32 : decode cX1_lengthen 32 = .ok (.iload_n 1, 1) := by decide +kernel
theorem dX1_lengthen_33 : decode cX1_lengthen 33 = .ok (.aaload, 1) := by decide +kernel
theorem dX1_lengthen_34 : decode cX1_lengthen 34 = .ok (.aload_n 0, 1) := by decide +kernel
theorem dX1_lengthen_35 : decode cX1_lengthen 35 = .ok (.getfield 23, 3) := by decide +kernel
theorem dX1_lengthen_38 : decode cX1_lengthen 38 = .ok (.iconst 1, 1) := by decide +kernel
theorem dX1_lengthen_39 : decode cX1_lengthen 39 = .ok (.isub, 1) := by decide +kernel
theorem dX1_lengthen_40 : decode cX1_lengthen 40 = .ok (.iaload, 1) := by decide +kernel
theorem dX1_lengthen_41 : decode cX1_lengthen 41 = .ok (.bipush 31, 2) := by decide +kernel
theorem dX1_lengthen_43 : decode cX1_lengthen 43 = .ok (.ishr, 1) := by decide +kernel
theorem dX1_lengthen_44 : decode cX1_lengthen 44 = .ok (.iastore, 1) := by decide +kernel
theorem dX1_lengthen_45 : decode cX1_lengthen 45 = .ok (.iinc 1 1, 3) := by decide +kernel
theorem dX1_lengthen_48 : decode cX1_lengthen 48 = .ok (.goto (-35), 3) := by decide +kernel
theorem dX1_lengthen_51 : decode cX1_lengthen 51 = .ok (.aload_n 0, 1) := by decide +kernel
theorem dX1_lengthen_52 : decode cX1_lengthen 52 = .ok (.dup, 1) := by decide +kernel
theorem dX1_lengthen_53 : decode cX1_lengthen 53 = .ok (.getfield 23, 3) := by decide +kernel
theorem dX1_lengthen_56 : decode cX1_lengthen 56 = .ok (.iconst 1, 1) := by decide +kernel
theorem dX1_lengthen_57 : decode cX1_lengthen 57 = .ok (.iadd, 1) := by decide +kernel
theorem dX1_lengthen_58 : decode cX1_lengthen 58 = .ok (.putfield 23, 3) := by decide +kernel
theorem dX1_lengthen_61 : decode cX1_lengthen 61 = .ok (.return_, 1) := by decide +kernel
theorem dX1_shorten_0 : decode cX1_shorten 0 = .ok (.aload_n 0, 1) := by decide +kernel
theorem dX1_shorten_1 : decode cX1_shorten 1 = .ok (.getfield 23, 3) := by decide +kernel
theorem dX1_shorten_4 : decode cX1_shorten 4 = .ok (.iconst 2, 1) := by decide +kernel
theorem dX1_shorten_5 : decode cX1_shorten 5 = .ok (.if_icmp .ge 4, 3) := by decide +kernel
theorem dX1_shorten_8 : decode cX1_shorten 8 = .ok (.return_, 1) := by decide +kernel
theorem dX1_shorten_9 : decode cX1_shorten 9 = .ok (.iconst 0, 1) := by decide +kernel
theorem dX1_shorten_10 : decode cX1_shorten 10 = .ok (.istore_n 1, 1) := by decide +kernel
theorem dX1_shorten_11 : decode cX1_shorten 11 = .ok (.iload_n 1, 1) := by decide +kernel
theorem dX1_shorten_12 : decode cX1_shorten 12 = .ok (.iconst 4, 1) := by decide +kernel
theorem dX1_shorten_13 : decode cX1_shorten 13 = .ok (.if_icmp .ge 42, 3) := by decide +kernel
theorem dX1_shorten_16 : decode cX1_shorten 16 = .ok (.aload_n 0, 1) := by decide +kernel
theorem dX1_shorten_17 : decode cX1_shorten 17 = .ok (.getfield 13, 3) := by decide +kernel
theorem dX1_shorten_20 : decode cX1_shorten 20 = .ok (.iload_n 1, 1) := by decide +kernel
theorem dX1_shorten_21 : decode cX1_shorten 21 = .ok (.aaload, 1) := by decide +kernel
theorem dX1_shorten_22 : decode cX1_shorten 22 = .ok (.aload_n 0, 1) := by decide +kernel
theorem dX1_shorten_23 : decode cX1_shorten 23 = .ok (.getfield 23, 3) := by decide +kernel
theorem dX1_shorten_26 : decode cX1_shorten 26 = .ok (.iconst 1, 1) := by decide +kernel
theorem dX1_shorten_27 : decode cX1_shorten 27 = .ok (.isub, 1) := by decide +kernel
theorem dX1_shorten_28 : decode cX1_shorten 28 = .ok (.iaload, 1) := by decide +kernel
theorem dX1_shorten_29 : decode cX1_shorten 29 = .ok (.aload_n 0, 1) := by decide +kernel
theorem dX1_shorten_30 : decode cX1_shorten 30 = .ok (.getfield 13, 3) := by decide +kernel
theorem dX1_shorten_33 : decode cX1_shorten 33 = .ok (.iload_n 1, 1) := by decide +kernel
theorem dX1_shorten_34 : decode cX1_shorten 34 = .ok (.aaload, 1) := by decide +kernel
theorem dX1_shorten_35 : decode cX1_shorten 35 = .ok (.aload_n 0, 1) := by decide +kernel
theorem dX1_shorten_36 : decode cX1_shorten 36 = .ok (.getfield 23, 3) := by decide +kernel
theorem dX1_shorten_39 : decode cX1_shorten 39 = .ok (.iconst 2, 1) := by decide +kernel
theorem dX1_shorten_40 : decode cX1_shorten 40 = .ok (.isub, 1) := by decide +kernel
theorem dX1_shorten_41 : decode cX1_shorten 41 = .ok (.iaload, 1) := by decide +kernel
theorem dX1_shorten_42 : decode cX1_shorten 42 = .ok (.bipush 31, 2) := by decide +kernel
theorem dX1_shorten_44 : decode cX1_shorten 44 = .ok (.ishr, 1) := by decide +kernel
theorem dX1_shorten_45 : decode cX1_shorten 45 = .ok (.if_icmp .eq 4, 3) := by decide +kernel
theorem dX1_shorten_48 : decode cX1_shorten 48 = .ok (.return_, 1) := by decide +kernel
theorem dX1_shorten_49 : decode cX1_shorten 49 = .ok (.iinc 1 1, 3) := by decide +kernel
theorem dX1_shorten_52 : decode cX1_shorten 52 = .ok (.goto (-41), 3) := by decide +kernel
theorem dX1_shorten_55 : decode cX1_shorten 55 = .ok (.aload_n 0, 1) := by decide +kernel
theorem dX1_shorten_56 : decode cX1_shorten 56 = .ok (.dup, 1) := by decide +kernel
theorem dX1_shorten_57 : decode cX1_shorten 57 = .ok (.getfield 23, 3) := by decide +kernel
theorem dX1_shorten_60 : decode cX1_shorten 60 = .ok (.iconst 1, 1) := by decide +kernel
theorem dX1_shorten_61 : decode cX1_shorten 61 = .ok (.isub, 1) := by decide +kernel
theorem dX1_shorten_62 : decode cX1_shorten 62 = .ok (.putfield 23, 3) := by decide +kernel
theorem dX1_shorten_65 : decode cX1_shorten 65 = .ok (.return_, 1) := by decide +kernel
theorem dX1_findSign_0 : decode cX1_findSign 0 = .ok (.aload_n 1, 1) := by decide +kernel
theorem dX1_findSign_1 : decode cX1_findSign 1 = .ok (.aload_n 0, 1) := by decide +kernel
theorem dX1_findSign_2 : decode cX1_findSign 2 = .ok (.getfield 23, 3) := by decide +kernel
theorem dX1_findSign_5 : decode cX1_findSign 5 = .ok (.iconst 1, 1) := by decide +kernel
theorem dX1_findSign_6 : decode cX1_findSign 6 = .ok (.isub, 1) := by decide +kernel
theorem dX1_findSign_7 : decode cX1_findSign 7 = .ok (.iaload, 1) := by decide +kernel
theorem dX1_findSign_8 : decode cX1_findSign 8 = .ok (.ifCond .ge 5, 3) := by decide +kernel
theorem dX1_findSign_11 : decode cX1_findSign 11 = .ok (.iconst (-1), 1) := by decide +kernel
theorem dX1_findSign_12 : decode cX1_findSign 12 = .ok (.ireturn, 1) := by decide +kernel
theorem dX1_findSign_13 : decode cX1_findSign 13 = .ok (.iconst 0, 1) := by decide +kernel
theorem dX1_findSign_14 : decode cX1_findSign 14 = .ok (.istore_n 2, 1) := by decide +kernel
theorem dX1_findSign_15 : decode cX1_findSign 15 = .ok (.iload_n 2, 1) := by decide +kernel
theorem dX1_findSign_16 : decode cX1_findSign 16 = .ok (.aload_n 0, 1) := by decide +kernel
theorem dX1_findSign_17 : decode cX1_findSign 17 = .ok (.getfield 23, 3) := by decide +kernel
theorem dX1_findSign_20 : decode cX1_findSign 20 = .ok (.if_icmp .ge 17, 3) := by decide +kernel
theorem dX1_findSign_23 : decode cX1_findSign 23 = .ok (.aload_n 1, 1) := by decide +kernel
theorem dX1_findSign_24 : decode cX1_findSign 24 = .ok (.iload_n 2, 1) := by decide +kernel
theorem dX1_findSign_25 : decode cX1_findSign 25 = .ok (.iaload, 1) := by decide +kernel
theorem dX1_findSign_26 : decode cX1_findSign 26 = .ok (.ifCond .eq 5, 3) := by decide +kernel
theorem dX1_findSign_29 : decode cX1_findSign 29 = .ok (.iconst 1, 1) := by decide +kernel
theorem dX1_findSign_30 : decode cX1_findSign 30 = .ok (.ireturn, 1) := by decide +kernel
theorem dX1_findSign_31 : decode cX1_findSign 31 = .ok (.iinc 2 1, 3) := by decide +kernel
theorem dX1_findSign_34 : decode cX1_findSign 34 = .ok (.goto (-19), 3) := by decide +kernel
theorem dX1_findSign_37 : decode cX1_findSign 37 = .ok (.iconst 0, 1) := by decide +kernel
theorem dX1_findSign_38 : decode cX1_findSign 38 = .ok (.ireturn, 1) := by decide +kernel
theorem dX1_negate_0 : decode cX1_negate 0 = .ok (.lconst 1, 1) := by decide +kernel
theorem dX1_negate_1 : decode cX1_negate 1 = .ok (.lstore_n 2, 1) := by decide +kernel
theorem dX1_negate_2 : decode cX1_negate 2 = .ok (.iconst 0, 1) := by decide +kernel
theorem dX1_negate_3 : decode cX1_negate 3 = .ok (.istore 4, 2) := by decide +kernel
theorem dX1_negate_5 : decode cX1_negate 5 = .ok (.iload 4, 2) := by decide +kernel
theorem dX1_negate_7 : decode cX1_negate 7 = .ok (.aload_n 0, 1) := by decide +kernel
theorem dX1_negate_8 : decode cX1_negate 8 = .ok (.getfield 23, 3) := by decide +kernel
theorem dX1_negate_11 : decode cX1_negate 11 = .ok (.if_icmp .ge 34, 3) := by decide +kernel
theorem dX1_negate_14 : decode cX1_negate 14 = .ok (.lload_n 2, 1) := by decide +kernel
theorem dX1_negate_15 : decode cX1_negate 15 = .ok (.aload_n 1, 1) := by decide +kernel
theorem dX1_negate_16 : decode cX1_negate 16 = .ok (.iload 4, 2) := by decide +kernel
theorem dX1_negate_18 : decode cX1_negate 18 = .ok (.iaload, 1) := by decide +kernel
theorem dX1_negate_19 : decode cX1_negate 19 = .ok (.iconst (-1), 1) := by decide +kernel
theorem dX1_negate_20 : decode cX1_negate 20 = .ok (.ixor, 1) := by decide +kernel
theorem dX1_negate_21 : decode cX1_negate 21 = .ok (.i2l, 1) := by decide +kernel
theorem dX1_negate_22 : decode cX1_negate 22 = .ok (.ldc2_w 62, 3) := by decide +kernel
theorem dX1_negate_25 : decode cX1_negate 25 = .ok (.land, 1) := by decide +kernel
theorem dX1_negate_26 : decode cX1_negate 26 = .ok (.ladd, 1) := by decide +kernel
theorem dX1_negate_27 : decode cX1_negate 27 = .ok (.lstore_n 2, 1) := by decide +kernel
theorem dX1_negate_28 : decode cX1_negate 28 = .ok (.aload_n 1, 1) := by decide +kernel
theorem dX1_negate_29 : decode cX1_negate 29 = .ok (.iload 4, 2) := by decide +kernel
theorem dX1_negate_31 : decode cX1_negate 31 = .ok (.lload_n 2, 1) := by decide +kernel
theorem dX1_negate_32 : decode cX1_negate 32 = .ok (.l2i, 1) := by decide +kernel
theorem dX1_negate_33 : decode cX1_negate 33 = .ok (.iastore, 1) := by decide +kernel
theorem dX1_negate_34 : decode cX1_negate 34 = .ok (.lload_n 2, 1) := by decide +kernel
theorem dX1_negate_35 : decode cX1_negate 35 = .ok (.bipush 32, 2) := by decide +kernel
theorem dX1_negate_37 : decode cX1_negate 37 = .ok (.lshr, 1) := by decide +kernel
theorem dX1_negate_38 : decode cX1_negate 38 = .ok (.lstore_n 2, 1) := by decide +kernel
theorem dX1_negate_39 : decode cX1_negate 39 = .ok (.iinc 4 1, 3) := by decide +kernel
theorem dX1_negate_42 : decode cX1_negate 42 = .ok (.goto (-37), 3) := by decide +kernel
theorem dX1_negate_45 : decode cX1_negate 45 = .ok (.return_, 1) := by decide +kernel
set_option maxRecDepth 20000 in
theorem ggX2_init_X0_init : GoodIn wsX2_init wsX0_init := goodIn_r _ [16, 17, 2, 3] (by decide +kernel) (by decide +kernel)
set_option maxRecDepth 20000 in
theorem gX2_init_X0_init_n9 : GoodIn wsX2_init (wsX0_init) := ggX2_init_X0_init
set_option maxRecDepth 20000 in
theorem ggX2_init_X1_init : GoodIn wsX2_init wsX1_init := goodIn_r _ [20, 21, 2, 3, 22, 23, 24, 25, 26, 27, 28, 13, 29, 30, 31, 32, 33, 34, 35, 36, 37, 38, 123, 124, 125, 126, 127, 128, 129] (by decide +kernel) (by decide +kernel)
set_option maxRecDepth 20000 in
theorem gX2_init_X1_init : GoodIn wsX2_init (wsX1_init) := ggX2_init_X1_init
set_option maxRecDepth 20000 in
theorem ggX2_init_X0_put : GoodIn wsX2_init wsX0_put := goodIn_r _ [42, 43, 44, 45, 46, 47, 48, 49, 50, 51, 52, 53, 54, 109, 110, 111, 112, 113] (by decide +kernel) (by decide +kernel)
set_option maxRecDepth 20000 in
theorem gX2_init_X0_put : GoodIn wsX2_init (wsV RX2 32 RX0 yX0_put wsX0_put) := goodIn_app (goodIn_of _ (by decide +kernel)) ggX2_init_X0_put
set_option maxRecDepth 20000 in
theorem ggX2_init_X2_settle : GoodIn wsX2_init wsX2_settle := goodIn_r _ [58, 59, 10, 7, 60, 8, 61, 62, 63, 6, 64, 43, 44, 45, 46, 47, 65, 66, 67, 68, 69, 70, 71, 72, 73, 74, 75, 76, 77, 78, 79, 80, 81, 82, 83, 84, 85, 86, 87, 88, 89, 90, 91, 92, 93, 94, 49, 95, 9, 96, 97, 98, 99, 100, 101, 102, 103, 104, 105, 106, 107, 108, 114, 115, 116, 117, 118, 119, 120, 121, 122, 109, 110, 111, 112, 113] (by decide +kernel) (by decide +kernel)
set_option maxRecDepth 20000 in
theorem gX2_init_X2_settle : GoodIn wsX2_init (wsV RX2 36 RX2 yX2_settle wsX2_settle) := goodIn_app (goodIn_of _ (by decide +kernel)) ggX2_init_X2_settle
theorem dX2_init_0 : decode cX2_init 0 = .ok (.aload_n 0, 1) := by decide +kernel
theorem dX2_init_1 : decode cX2_init 1 = .ok (.invokespecial 1, 3) := by decide +kernel
theorem dX2_init_4 : decode cX2_init 4 = .ok (.aload_n 0, 1) := by decide +kernel
theorem dX2_init_5 : decode cX2_init 5 = .ok (.new 7, 3) := by decide +kernel
theorem dX2_init_8 : decode cX2_init 8 = .ok (.dup, 1) := by decide +kernel
theorem dX2_init_9 : decode cX2_init 9 = .ok (.invokespecial 9, 3) := by decide +kernel
theorem dX2_init_12 : decode cX2_init 12 = .ok (.putfield 10, 3) := by decide +kernel
theorem dX2_init_15 : decode cX2_init 15 = .ok (.aload_n 0, 1) := by decide +kernel
theorem dX2_init_16 : decode cX2_init 16 = .ok (.new 7, 3) := by decide +kernel
theorem dX2_init_19 : decode cX2_init 19 = .ok (.dup, 1) := by decide +kernel
theorem dX2_init_20 : decode cX2_init 20 = .ok (.invokespecial 9, 3) := by decide +kernel
theorem dX2_init_23 : decode cX2_init 23 = .ok (.putfield 16, 3) := by decide +kernel
theorem dX2_init_26 : decode cX2_init 26 = .ok (.aload_n 0, 1) := by decide +kernel
theorem dX2_init_27 : decode cX2_init 27 = .ok (.new 7, 3) := by decide +kernel
theorem dX2_init_30 : decode cX2_init 30 = .ok (.dup, 1) := by decide +kernel
theorem dX2_init_31 : decode cX2_init 31 = .ok (.invokespecial 9, 3) := by decide +kernel
theorem dX2_init_34 : decode cX2_init 34 = .ok (.putfield 19, 3) := by decide +kernel
theorem dX2_init_37 : decode cX2_init 37 = .ok (.aload_n 0, 1) := by decide +kernel
theorem dX2_init_38 : decode cX2_init 38 = .ok (.new 7, 3) := by decide +kernel
theorem dX2_init_41 : decode cX2_init 41 = .ok (.dup, 1) := by decide +kernel
theorem dX2_init_42 : decode cX2_init 42 = .ok (.invokespecial 9, 3) := by decide +kernel
theorem dX2_init_45 : decode cX2_init 45 = .ok (.putfield 22, 3) := by decide +kernel
theorem dX2_init_48 : decode cX2_init 48 = .ok (.aload_n 0, 1) := by decide +kernel
theorem dX2_init_49 : decode cX2_init 49 = .ok (.new 25, 3) := by decide +kernel
theorem dX2_init_52 : decode cX2_init 52 = .ok (.dup, 1) := by decide +kernel
theorem dX2_init_53 : decode cX2_init 53 = .ok (.invokespecial 27, 3) := by decide +kernel
theorem dX2_init_56 : decode cX2_init 56 = .ok (.putfield 28, 3) := by decide +kernel
theorem dX2_init_59 : decode cX2_init 59 = .ok (.aload_n 0, 1) := by decide +kernel
theorem dX2_init_60 : decode cX2_init 60 = .ok (.getfield 10, 3) := by decide +kernel
theorem dX2_init_63 : decode cX2_init 63 = .ok (.lconst 1, 1) := by decide +kernel
theorem dX2_init_64 : decode cX2_init 64 = .ok (.lconst 0, 1) := by decide +kernel
theorem dX2_init_65 : decode cX2_init 65 = .ok (.lconst 1, 1) := by decide +kernel
theorem dX2_init_66 : decode cX2_init 66 = .ok (.invokevirtual 32, 3) := by decide +kernel
theorem dX2_init_69 : decode cX2_init 69 = .ok (.aload_n 0, 1) := by decide +kernel
theorem dX2_init_70 : decode cX2_init 70 = .ok (.invokevirtual 36, 3) := by decide +kernel
theorem dX2_init_73 : decode cX2_init 73 = .ok (.return_, 1) := by decide +kernel
set_option maxRecDepth 20000 in
theorem ggX2_take_X2_canBeTaken : GoodIn wsX2_take wsX2_canBeTaken := goodIn_r _ [8, 9, 10, 11, 12, 7, 13, 14, 15, 16, 17, 18, 19, 20, 21, 22, 23] (by decide +kernel) (by decide +kernel)
set_option maxRecDepth 20000 in
theorem gX2_take_X2_canBeTaken : GoodIn wsX2_take (va_wsS RX2 39 yX2_canBeTaken wsX2_canBeTaken) := goodIn_app (goodIn_of _ (by decide +kernel)) ggX2_take_X2_canBeTaken
set_option maxRecDepth 20000 in
theorem ggX2_take_X0_put : GoodIn wsX2_take wsX0_put := goodIn_r _ [28, 29, 30, 31, 32, 33, 17, 7, 18, 19, 21, 22, 23, 99, 100, 101, 102, 103] (by decide +kernel) (by decide +kernel)
set_option maxRecDepth 20000 in
theorem gX2_take_X0_put : GoodIn wsX2_take (wsV RX2 32 RX0 yX0_put wsX0_put) := goodIn_app (goodIn_of _ (by decide +kernel)) ggX2_take_X0_put
set_option maxRecDepth 20000 in
theorem ggX2_take_X2_settle : GoodIn wsX2_take wsX2_settle := goodIn_r _ [37, 38, 39, 3, 40, 41, 42, 43, 44, 27, 45, 29, 30, 31, 32, 33, 46, 47, 48, 49, 50, 51, 52, 53, 54, 55, 56, 57, 58, 59, 60, 61, 62, 63, 64, 65, 66, 67, 68, 69, 70, 71, 72, 73, 74, 75, 7, 76, 77, 78, 79, 4, 80, 81, 82, 83, 84, 85, 86, 87, 88, 89, 90, 91, 92, 93, 94, 95, 96, 97, 98, 99, 100, 101, 102, 103] (by decide +kernel) (by decide +kernel)
set_option maxRecDepth 20000 in
theorem gX2_take_X2_settle : GoodIn wsX2_take (wsV RX2 36 RX2 yX2_settle wsX2_settle) := goodIn_app (goodIn_of _ (by decide +kernel)) ggX2_take_X2_settle
theorem dX2_take_0 : decode cX2_take 0 = .ok (.iload_n 1, 1) := by decide +kernel
theorem dX2_take_1 : decode cX2_take 1 = .ok (.i2l, 1) := by decide +kernel
theorem dX2_take_2 : decode cX2_take 2 = .ok (.iload_n 2, 1) := by decide +kernel
theorem dX2_take_3 : decode cX2_take 3 = .ok (.i2l, 1) := by decide +kernel
theorem dX2_take_4 : decode cX2_take 4 = .ok (.iload_n 3, 1) := by decide +kernel
theorem dX2_take_5 : decode cX2_take 5 = .ok (.i2l, 1) := by decide +kernel
theorem dX2_take_6 : decode cX2_take 6 = .ok (.invokestatic 39, 3) := by decide +kernel
theorem dX2_take_9 : decode cX2_take 9 = .ok (.ifCond .ne 13, 3) := by decide +kernel
theorem dX2_take_12 : decode cX2_take 12 = .ok (.new 43, 3) := by decide +kernel
theorem dX2_take_15 : decode cX2_take 15 = .ok (.dup, 1) := by decide +kernel
theorem dX2_take_16 : decode cX2_take 16 = .ok (.ldc 45, 2) := by decide +kernel
theorem dX2_take_18 : decode cX2_take 18 = .ok (.invokespecial 47, 3) := by decide +kernel
theorem dX2_take_21 : decode cX2_take 21 = .ok (.athrow, 1) := by decide +kernel
theorem dX2_take_22 : decode cX2_take 22 = .ok (.aload_n 0, 1) := by decide +kernel
theorem dX2_take_23 : decode cX2_take 23 = .ok (.getfield 10, 3) := by decide +kernel
theorem dX2_take_26 : decode cX2_take 26 = .ok (.iload_n 1, 1) := by decide +kernel
theorem dX2_take_27 : decode cX2_take 27 = .ok (.i2l, 1) := by decide +kernel
theorem dX2_take_28 : decode cX2_take 28 = .ok (.iload_n 2, 1) := by decide +kernel
theorem dX2_take_29 : decode cX2_take 29 = .ok (.i2l, 1) := by decide +kernel
theorem dX2_take_30 : decode cX2_take 30 = .ok (.iload_n 3, 1) := by decide +kernel
theorem dX2_take_31 : decode cX2_take 31 = .ok (.i2l, 1) := by decide +kernel
theorem dX2_take_32 : decode cX2_take 32 = .ok (.invokevirtual 32, 3) := by decide +kernel
theorem dX2_take_35 : decode cX2_take 35 = .ok (.aload_n 0, 1) := by decide +kernel
theorem dX2_take_36 : decode cX2_take 36 = .ok (.invokevirtual 36, 3) := by decide +kernel
theorem dX2_take_39 : decode cX2_take 39 = .ok (.aload_n 0, 1) := by decide +kernel
theorem dX2_take_40 : decode cX2_take 40 = .ok (.getfield 10, 3) := by decide +kernel
