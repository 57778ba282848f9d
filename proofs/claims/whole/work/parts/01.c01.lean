theorem dX0_nextMiddle_29 : decode cX0_nextMiddle 29 = .ok (.ifCond .le 31, 3) := by decide +kernel
theorem dX0_nextMiddle_32 : decode cX0_nextMiddle 32 = .ok (.aload_n 0, 1) := by decide +kernel
theorem dX0_nextMiddle_33 : decode cX0_nextMiddle 33 = .ok (.getfield 15, 3) := by decide +kernel
theorem dX0_nextMiddle_36 : decode cX0_nextMiddle 36 = .ok (.lneg, 1) := by decide +kernel
theorem dX0_nextMiddle_37 : decode cX0_nextMiddle 37 = .ok (.lload_n 3, 1) := by decide +kernel
theorem dX0_nextMiddle_38 : decode cX0_nextMiddle 38 = .ok (.invokestatic 60, 3) := by decide +kernel
theorem dX0_nextMiddle_41 : decode cX0_nextMiddle 41 = .ok (.lstore 5, 2) := by decide +kernel
theorem dX0_nextMiddle_43 : decode cX0_nextMiddle 43 = .ok (.lload 5, 2) := by decide +kernel
theorem dX0_nextMiddle_45 : decode cX0_nextMiddle 45 = .ok (.lload_n 1, 1) := by decide +kernel
theorem dX0_nextMiddle_46 : decode cX0_nextMiddle 46 = .ok (.lcmp, 1) := by decide +kernel
theorem dX0_nextMiddle_47 : decode cX0_nextMiddle 47 = .ok (.ifCond .le 10, 3) := by decide +kernel
theorem dX0_nextMiddle_50 : decode cX0_nextMiddle 50 = .ok (.lload 5, 2) := by decide +kernel
theorem dX0_nextMiddle_52 : decode cX0_nextMiddle 52 = .ok (.lload_n 3, 1) := by decide +kernel
theorem dX0_nextMiddle_53 : decode cX0_nextMiddle 53 = .ok (.lsub, 1) := by decide +kernel
theorem dX0_nextMiddle_54 : decode cX0_nextMiddle 54 = .ok (.goto 5, 3) := by decide +kernel
theorem dX0_nextMiddle_57 : decode cX0_nextMiddle 57 = .ok (.lload 5, 2) := by decide +kernel
theorem dX0_nextMiddle_59 : decode cX0_nextMiddle 59 = .ok (.lreturn, 1) := by decide +kernel
theorem dX0_nextMiddle_60 : decode cX0_nextMiddle 60 = .ok (.aload_n 0, 1) := by decide +kernel
theorem dX0_nextMiddle_61 : decode cX0_nextMiddle 61 = .ok (.getfield 32, 3) := by decide +kernel
theorem dX0_nextMiddle_64 : decode cX0_nextMiddle 64 = .ok (.aload_n 0, 1) := by decide +kernel
theorem dX0_nextMiddle_65 : decode cX0_nextMiddle 65 = .ok (.getfield 32, 3) := by decide +kernel
theorem dX0_nextMiddle_68 : decode cX0_nextMiddle 68 = .ok (.aload_n 0, 1) := by decide +kernel
theorem dX0_nextMiddle_69 : decode cX0_nextMiddle 69 = .ok (.getfield 15, 3) := by decide +kernel
theorem dX0_nextMiddle_72 : decode cX0_nextMiddle 72 = .ok (.ladd, 1) := by decide +kernel
theorem dX0_nextMiddle_73 : decode cX0_nextMiddle 73 = .ok (.lload_n 3, 1) := by decide +kernel
theorem dX0_nextMiddle_74 : decode cX0_nextMiddle 74 = .ok (.invokestatic 60, 3) := by decide +kernel
theorem dX0_nextMiddle_77 : decode cX0_nextMiddle 77 = .ok (.lsub, 1) := by decide +kernel
theorem dX0_nextMiddle_78 : decode cX0_nextMiddle 78 = .ok (.lreturn, 1) := by decide +kernel
set_option maxRecDepth 20000 in
theorem ggX1_init_X1_begin : GoodIn wsX1_init wsX1_begin := goodIn_r _ [12, 13, 6, 14, 15, 16, 11, 17, 18, 19, 20, 21, 22, 23, 24, 25, 26, 27, 28] (by decide +kernel) (by decide +kernel)
set_option maxRecDepth 20000 in
theorem gX1_init_X1_begin : GoodIn wsX1_init (wsV RX1 20 RX1 yX1_begin wsX1_begin) := goodIn_app (goodIn_of _ (by decide +kernel)) ggX1_init_X1_begin
theorem dX1_init_0 : decode cX1_init 0 = .ok (.aload_n 0, 1) := by decide +kernel
theorem dX1_init_1 : decode cX1_init 1 = .ok (.invokespecial 3, 3) := by decide +kernel
theorem dX1_init_4 : decode cX1_init 4 = .ok (.aload_n 0, 1) := by decide +kernel
theorem dX1_init_5 : decode cX1_init 5 = .ok (.iconst 4, 1) := by decide +kernel
theorem dX1_init_6 : decode cX1_init 6 = .ok (.sipush 256, 3) := by decide +kernel
theorem dX1_init_9 : decode cX1_init 9 = .ok (.multianewarray 11 2, 4) := by decide +kernel
theorem dX1_init_13 : decode cX1_init 13 = .ok (.putfield 13, 3) := by decide +kernel
theorem dX1_init_16 : decode cX1_init 16 = .ok (.aload_n 0, 1) := by decide +kernel
theorem dX1_init_17 : decode cX1_init 17 = .ok (.iconst 4, 1) := by decide +kernel
theorem dX1_init_18 : decode cX1_init 18 = .ok (.newarray .int, 2) := by decide +kernel
theorem dX1_init_20 : decode cX1_init 20 = .ok (.putfield 16, 3) := by decide +kernel
theorem dX1_init_23 : decode cX1_init 23 = .ok (.aload_n 0, 1) := by decide +kernel
theorem dX1_init_24 : decode cX1_init 24 = .ok (.invokevirtual 20, 3) := by decide +kernel
theorem dX1_init_27 : decode cX1_init 27 = .ok (.return_, 1) := by decide +kernel
set_option maxRecDepth 20000 in
theorem ggX1_begin_X1_forgetWaiting : GoodIn wsX1_begin wsX1_forgetWaiting := goodIn_r _ [7, 8, 9, 10, 11, 12, 13, 14, 15, 16, 17, 18] (by decide +kernel) (by decide +kernel)
set_option maxRecDepth 20000 in
theorem gX1_begin_X1_forgetWaiting : GoodIn wsX1_begin (wsV RX1 27 RX1 yX1_forgetWaiting wsX1_forgetWaiting) := goodIn_app (goodIn_of _ (by decide +kernel)) ggX1_begin_X1_forgetWaiting
theorem dX1_begin_0 : decode cX1_begin 0 = .ok (.aload_n 0, 1) := by decide +kernel
theorem dX1_begin_1 : decode cX1_begin 1 = .ok (.iconst 1, 1) := by decide +kernel
theorem dX1_begin_2 : decode cX1_begin 2 = .ok (.putfield 23, 3) := by decide +kernel
theorem dX1_begin_5 : decode cX1_begin 5 = .ok (.iconst 0, 1) := by decide +kernel
theorem dX1_begin_6 : decode cX1_begin 6 = .ok (.istore_n 1, 1) := by decide +kernel
theorem dX1_begin_7 : decode cX1_begin 7 = .ok (.iload_n 1, 1) := by decide +kernel
theorem dX1_begin_8 : decode cX1_begin 8 = .ok (.iconst 4, 1) := by decide +kernel
theorem dX1_begin_9 : decode cX1_begin 9 = .ok (.if_icmp .ge 31, 3) := by decide +kernel
theorem dX1_begin_12 : decode cX1_begin 12 = .ok (.aload_n 0, 1) := by decide +kernel
theorem dX1_begin_13 : decode cX1_begin 13 = .ok (.getfield 13, 3) := by decide +kernel
theorem dX1_begin_16 : decode cX1_begin 16 = .ok (.iload_n 1, 1) := by decide +kernel
theorem dX1_begin_17 : decode cX1_begin 17 = .ok (.aaload, 1) := by decide +kernel
theorem dX1_begin_18 : decode cX1_begin 18 = .ok (.iconst 0, 1) := by decide +kernel
theorem dX1_begin_19 : decode cX1_begin 19 = .ok (.iload_n 1, 1) := by decide +kernel
theorem dX1_begin_20 : decode cX1_begin 20 = .ok (.ifCond .eq 8, 3) := by decide +kernel
theorem dX1_begin_23 : decode cX1_begin 23 = .ok (.iload_n 1, 1) := by decide +kernel
theorem dX1_begin_24 : decode cX1_begin 24 = .ok (.iconst 3, 1) := by decide +kernel
theorem dX1_begin_25 : decode cX1_begin 25 = .ok (.if_icmp .ne 7, 3) := by decide +kernel
theorem dX1_begin_28 : decode cX1_begin 28 = .ok (.iconst 1, 1) := by decide +kernel
theorem dX1_begin_29 : decode cX1_begin 29 = .ok (.goto 4, 3) := by decide +kernel
theorem dX1_begin_32 : decode cX1_begin 32 = .ok (.iconst 0, 1) := by decide +kernel
theorem dX1_begin_33 : decode cX1_begin 33 = .ok (.iastore, 1) := by decide +kernel
theorem dX1_begin_34 : decode cX1_begin 34 = .ok (.iinc 1 1, 3) := by decide +kernel
theorem dX1_begin_37 : decode cX1_begin 37 = .ok (.goto (-30), 3) := by decide +kernel
theorem dX1_begin_40 : decode cX1_begin 40 = .ok (.aload_n 0, 1) := by decide +kernel
theorem dX1_begin_41 : decode cX1_begin 41 = .ok (.invokevirtual 27, 3) := by decide +kernel
theorem dX1_begin_44 : decode cX1_begin 44 = .ok (.return_, 1) := by decide +kernel
set_option maxRecDepth 20000 in
theorem ggX1_undoStep_X1_isTooGreat : GoodIn wsX1_undoStep wsX1_isTooGreat := goodIn_r _ [8, 9, 10] (by decide +kernel) (by decide +kernel)
set_option maxRecDepth 20000 in
theorem gX1_undoStep_X1_isTooGreat : GoodIn wsX1_undoStep (va_wsS RX1 37 yX1_isTooGreat wsX1_isTooGreat) := goodIn_app (goodIn_of _ (by decide +kernel)) ggX1_undoStep_X1_isTooGreat
set_option maxRecDepth 20000 in
theorem ggX1_undoStep_X1_multiplyWaiting : GoodIn wsX1_undoStep wsX1_multiplyWaiting := goodIn_r _ [14, 15, 16, 17, 18, 7, 19, 20, 21, 22, 23, 24, 25, 1, 3, 2, 4, 26, 27, 28, 29, 30, 31, 32, 33, 34, 35, 36, 37, 38, 39, 40] (by decide +kernel) (by decide +kernel)
set_option maxRecDepth 20000 in
theorem gX1_undoStep_X1_multiplyWaiting : GoodIn wsX1_undoStep (wsV RX1 47 RX1 yX1_multiplyWaiting wsX1_multiplyWaiting) := goodIn_app (goodIn_of _ (by decide +kernel)) ggX1_undoStep_X1_multiplyWaiting
theorem dX1_undoStep_0 : decode cX1_undoStep 0 = .ok (.lload_n 1, 1) := by decide +kernel
theorem dX1_undoStep_1 : decode cX1_undoStep 1 = .ok (.aload_n 0, 1) := by decide +kernel
theorem dX1_undoStep_2 : decode cX1_undoStep 2 = .ok (.getfield 30, 3) := by decide +kernel
theorem dX1_undoStep_5 : decode cX1_undoStep 5 = .ok (.lmul, 1) := by decide +kernel
theorem dX1_undoStep_6 : decode cX1_undoStep 6 = .ok (.aload_n 0, 1) := by decide +kernel
theorem dX1_undoStep_7 : decode cX1_undoStep 7 = .ok (.getfield 34, 3) := by decide +kernel
theorem dX1_undoStep_10 : decode cX1_undoStep 10 = .ok (.ladd, 1) := by decide +kernel
theorem dX1_undoStep_11 : decode cX1_undoStep 11 = .ok (.invokestatic 37, 3) := by decide +kernel
theorem dX1_undoStep_14 : decode cX1_undoStep 14 = .ok (.ifCond .ne 20, 3) := by decide +kernel
theorem dX1_undoStep_17 : decode cX1_undoStep 17 = .ok (.lload_n 1, 1) := by decide +kernel
theorem dX1_undoStep_18 : decode cX1_undoStep 18 = .ok (.aload_n 0, 1) := by decide +kernel
theorem dX1_undoStep_19 : decode cX1_undoStep 19 = .ok (.getfield 41, 3) := by decide +kernel
theorem dX1_undoStep_22 : decode cX1_undoStep 22 = .ok (.lmul, 1) := by decide +kernel
theorem dX1_undoStep_23 : decode cX1_undoStep 23 = .ok (.aload_n 0, 1) := by decide +kernel
theorem dX1_undoStep_24 : decode cX1_undoStep 24 = .ok (.getfield 44, 3) := by decide +kernel
theorem dX1_undoStep_27 : decode cX1_undoStep 27 = .ok (.ladd, 1) := by decide +kernel
theorem dX1_undoStep_28 : decode cX1_undoStep 28 = .ok (.invokestatic 37, 3) := by decide +kernel
theorem dX1_undoStep_31 : decode cX1_undoStep 31 = .ok (.ifCond .eq 7, 3) := by decide +kernel
theorem dX1_undoStep_34 : decode cX1_undoStep 34 = .ok (.aload_n 0, 1) := by decide +kernel
theorem dX1_undoStep_35 : decode cX1_undoStep 35 = .ok (.invokevirtual 47, 3) := by decide +kernel
theorem dX1_undoStep_38 : decode cX1_undoStep 38 = .ok (.lload_n 1, 1) := by decide +kernel
theorem dX1_undoStep_39 : decode cX1_undoStep 39 = .ok (.aload_n 0, 1) := by decide +kernel
theorem dX1_undoStep_40 : decode cX1_undoStep 40 = .ok (.getfield 30, 3) := by decide +kernel
theorem dX1_undoStep_43 : decode cX1_undoStep 43 = .ok (.lmul, 1) := by decide +kernel
theorem dX1_undoStep_44 : decode cX1_undoStep 44 = .ok (.aload_n 0, 1) := by decide +kernel
theorem dX1_undoStep_45 : decode cX1_undoStep 45 = .ok (.getfield 34, 3) := by decide +kernel
theorem dX1_undoStep_48 : decode cX1_undoStep 48 = .ok (.ladd, 1) := by decide +kernel
theorem dX1_undoStep_49 : decode cX1_undoStep 49 = .ok (.lstore_n 3, 1) := by decide +kernel
theorem dX1_undoStep_50 : decode cX1_undoStep 50 = .ok (.lload_n 1, 1) := by decide +kernel
theorem dX1_undoStep_51 : decode cX1_undoStep 51 = .ok (.aload_n 0, 1) := by decide +kernel
theorem dX1_undoStep_52 : decode cX1_undoStep 52 = .ok (.getfield 41, 3) := by decide +kernel
theorem dX1_undoStep_55 : decode cX1_undoStep 55 = .ok (.lmul, 1) := by decide +kernel
theorem dX1_undoStep_56 : decode cX1_undoStep 56 = .ok (.aload_n 0, 1) := by decide +kernel
theorem dX1_undoStep_57 : decode cX1_undoStep 57 = .ok (.getfield 44, 3) := by decide +kernel
theorem dX1_undoStep_60 : decode cX1_undoStep 60 = .ok (.ladd, 1) := by decide +kernel
theorem dX1_undoStep_61 : decode cX1_undoStep 61 = .ok (.lstore 5, 2) := by decide +kernel
theorem dX1_undoStep_63 : decode cX1_undoStep 63 = .ok (.aload_n 0, 1) := by decide +kernel
theorem dX1_undoStep_64 : decode cX1_undoStep 64 = .ok (.aload_n 0, 1) := by decide +kernel
theorem dX1_undoStep_65 : decode cX1_undoStep 65 = .ok (.getfield 30, 3) := by decide +kernel
theorem dX1_undoStep_68 : decode cX1_undoStep 68 = .ok (.lneg, 1) := by decide +kernel
theorem dX1_undoStep_69 : decode cX1_undoStep 69 = .ok (.putfield 34, 3) := by decide +kernel
theorem dX1_undoStep_72 : decode cX1_undoStep 72 = .ok (.aload_n 0, 1) := by decide +kernel
theorem dX1_undoStep_73 : decode cX1_undoStep 73 = .ok (.aload_n 0, 1) := by decide +kernel
theorem dX1_undoStep_74 : decode cX1_undoStep 74 = .ok (.getfield 41, 3) := by decide +kernel
theorem dX1_undoStep_77 : decode cX1_undoStep 77 = .ok (.lneg, 1) := by decide +kernel
theorem dX1_undoStep_78 : decode cX1_undoStep 78 = .ok (.putfield 44, 3) := by decide +kernel
theorem dX1_undoStep_81 : decode cX1_undoStep 81 = .ok (.aload_n 0, 1) := by decide +kernel
theorem dX1_undoStep_82 : decode cX1_undoStep 82 = .ok (.lload_n 3, 1) := by decide +kernel
theorem dX1_undoStep_83 : decode cX1_undoStep 83 = .ok (.putfield 30, 3) := by decide +kernel
theorem dX1_undoStep_86 : decode cX1_undoStep 86 = .ok (.aload_n 0, 1) := by decide +kernel
theorem dX1_undoStep_87 : decode cX1_undoStep 87 = .ok (.lload 5, 2) := by decide +kernel
theorem dX1_undoStep_89 : decode cX1_undoStep 89 = .ok (.putfield 41, 3) := by decide +kernel
theorem dX1_undoStep_92 : decode cX1_undoStep 92 = .ok (.return_, 1) := by decide +kernel
set_option maxRecDepth 20000 in
theorem ggX1_finish_X1_multiplyWaiting : GoodIn wsX1_finish wsX1_multiplyWaiting := goodIn_r _ [7, 2, 8, 9, 10, 6, 11, 12, 13, 14, 15, 16, 17, 18, 19, 20, 21, 22, 23, 24, 25, 26, 27, 28, 29, 38, 39, 40, 41, 42, 43, 44] (by decide +kernel) (by decide +kernel)
set_option maxRecDepth 20000 in
theorem gX1_finish_X1_multiplyWaiting : GoodIn wsX1_finish (wsV RX1 47 RX1 yX1_multiplyWaiting wsX1_multiplyWaiting) := goodIn_app (goodIn_of _ (by decide +kernel)) ggX1_finish_X1_multiplyWaiting
set_option maxRecDepth 20000 in
theorem ggX1_finish_X1_findSign : GoodIn wsX1_finish wsX1_findSign := goodIn_r _ [33, 12, 38, 39, 40, 41, 42, 43, 44] (by decide +kernel) (by decide +kernel)
set_option maxRecDepth 20000 in
theorem gX1_finish_X1_findSign : GoodIn wsX1_finish (wsV RX1 50 RX1 yX1_findSign wsX1_findSign) := goodIn_app (goodIn_of _ (by decide +kernel)) ggX1_finish_X1_findSign
set_option maxRecDepth 20000 in
theorem ggX1_finish_X1_negate : GoodIn wsX1_finish wsX1_negate := goodIn_r _ [37, 12, 17, 38, 39, 40, 41, 42, 43, 44] (by decide +kernel) (by decide +kernel)
set_option maxRecDepth 20000 in
theorem gX1_finish_X1_negate : GoodIn wsX1_finish (wsV RX1 54 RX1 yX1_negate wsX1_negate) := goodIn_app (goodIn_of _ (by decide +kernel)) ggX1_finish_X1_negate
theorem dX1_finish_0 : decode cX1_finish 0 = .ok (.aload_n 0, 1) := by decide +kernel
theorem dX1_finish_1 : decode cX1_finish 1 = .ok (.invokevirtual 47, 3) := by decide +kernel
theorem dX1_finish_4 : decode cX1_finish 4 = .ok (.iconst 0, 1) := by decide +kernel
theorem dX1_finish_5 : decode cX1_finish 5 = .ok (.istore_n 1, 1) := by decide +kernel
theorem dX1_finish_6 : decode cX1_finish 6 = .ok (.iload_n 1, 1) := by decide +kernel
theorem dX1_finish_7 : decode cX1_finish 7 = .ok (.iconst 4, 1) := by decide +kernel
theorem dX1_finish_8 : decode cX1_finish 8 = .ok (.if_icmp .ge 44, 3) := by decide +kernel
theorem dX1_finish_11 : decode cX1_finish 11 = .ok (.aload_n 0, 1) := by decide +kernel
theorem dX1_finish_12 : decode cX1_finish 12 = .ok (.getfield 16, 3) := by decide +kernel
theorem dX1_finish_15 : decode cX1_finish 15 = .ok (.iload_n 1, 1) := by decide +kernel
theorem dX1_finish_16 : decode cX1_finish 16 = .ok (.aload_n 0, 1) := by decide +kernel
theorem dX1_finish_17 : decode cX1_finish 17 = .ok (.aload_n 0, 1) := by decide +kernel
theorem dX1_finish_18 : decode cX1_finish 18 = .ok (.getfield 13, 3) := by decide +kernel
theorem dX1_finish_21 : decode cX1_finish 21 = .ok (.iload_n 1, 1) := by decide +kernel
theorem dX1_finish_22 : decode cX1_finish 22 = .ok (.aaload, 1) := by decide +kernel
theorem dX1_finish_23 : decode cX1_finish 23 = .ok (.invokevirtual 50, 3) := by decide +kernel
theorem dX1_finish_26 : decode cX1_finish 26 = .ok (.iastore, 1) := by decide +kernel
theorem dX1_finish_27 : decode cX1_finish 27 = .ok (.aload_n 0, 1) := by decide +kernel
theorem dX1_finish_28 : decode cX1_finish 28 = .ok (.getfield 16, 3) := by decide +kernel
theorem dX1_finish_31 : decode cX1_finish 31 = .ok (.iload_n 1, 1) := by decide +kernel
theorem dX1_finish_32 : decode cX1_finish 32 = .ok (.iaload, 1) := by decide +kernel
theorem dX1_finish_33 : decode cX1_finish 33 = .ok (.ifCond .ge 13, 3) := by decide +kernel
theorem dX1_finish_36 : decode cX1_finish 36 = .ok (.aload_n 0, 1) := by decide +kernel
theorem dX1_finish_37 : decode cX1_finish 37 = .ok (.aload_n 0, 1) := by decide +kernel
theorem dX1_finish_38 : decode cX1_finish 38 = .ok (.getfield 13, 3) := by decide +kernel
theorem dX1_finish_41 : decode cX1_finish 41 = .ok (.iload_n 1, 1) := by decide +kernel
theorem dX1_finish_42 : decode cX1_finish 42 = .ok (.aaload, 1) := by decide +kernel
theorem dX1_finish_43 : decode cX1_finish 43 = .ok (.invokevirtual 54, 3) := by decide +kernel
theorem dX1_finish_46 : decode cX1_finish 46 = .ok (.iinc 1 1, 3) := by decide +kernel
theorem dX1_finish_49 : decode cX1_finish 49 = .ok (.goto (-43), 3) := by decide +kernel
theorem dX1_finish_52 : decode cX1_finish 52 = .ok (.return_, 1) := by decide +kernel
theorem dX1_signOf_0 : decode cX1_signOf 0 = .ok (.aload_n 0, 1) := by decide +kernel
theorem dX1_signOf_1 : decode cX1_signOf 1 = .ok (.getfield 16, 3) := by decide +kernel
theorem dX1_signOf_4 : decode cX1_signOf 4 = .ok (.iload_n 1, 1) := by decide +kernel
theorem dX1_signOf_5 : decode cX1_signOf 5 = .ok (.iaload, 1) := by decide +kernel
theorem dX1_signOf_6 : decode cX1_signOf 6 = .ok (.ireturn, 1) := by decide +kernel
set_option maxRecDepth 20000 in
theorem ggX1_bitsOf_X1_bitsOfWord : GoodIn wsX1_bitsOf wsX1_bitsOfWord := goodIn_r _ [6] (by decide +kernel) (by decide +kernel)
set_option maxRecDepth 20000 in
theorem gX1_bitsOf_X1_bitsOfWord : GoodIn wsX1_bitsOf (va_wsS RX1 58 yX1_bitsOfWord wsX1_bitsOfWord) := goodIn_app (goodIn_of _ (by decide +kernel)) ggX1_bitsOf_X1_bitsOfWord
theorem dX1_bitsOf_0 : decode cX1_bitsOf 0 = .ok (.aload_n 0, 1) := by decide +kernel
theorem dX1_bitsOf_1 : decode cX1_bitsOf 1 = .ok (.getfield 23, 3) := by decide +kernel
theorem dX1_bitsOf_4 : decode cX1_bitsOf 4 = .ok (.iconst 1, 1) := by decide +kernel
theorem dX1_bitsOf_5 : decode cX1_bitsOf 5 = .ok (.isub, 1) := by decide +kernel
theorem dX1_bitsOf_6 : decode cX1_bitsOf 6 = .ok (.istore_n 2, 1) := by decide +kernel
theorem dX1_bitsOf_7 : decode cX1_bitsOf 7 = .ok (.iload_n 2, 1) := by decide +kernel
theorem dX1_bitsOf_8 : decode cX1_bitsOf 8 = .ok (.ifCond .lt 37, 3) := by decide +kernel
theorem dX1_bitsOf_11 : decode cX1_bitsOf 11 = .ok (.aload_n 0, 1) := by decide +kernel
theorem dX1_bitsOf_12 : decode cX1_bitsOf 12 = .ok (.getfield 13, 3) := by decide +kernel
theorem dX1_bitsOf_15 : decode cX1_bitsOf 15 = .ok (.iload_n 1, 1) := by decide +kernel
theorem dX1_bitsOf_16 : decode cX1_bitsOf 16 = .ok (.aaload, 1) := by decide +kernel
theorem dX1_bitsOf_17 : decode cX1_bitsOf 17 = .ok (.iload_n 2, 1) := by decide +kernel
theorem dX1_bitsOf_18 : decode cX1_bitsOf 18 = .ok (.iaload, 1) := by decide +kernel
theorem dX1_bitsOf_19 : decode cX1_bitsOf 19 = .ok (.ifCond .eq 20, 3) := by decide +kernel
theorem dX1_bitsOf_22 : decode cX1_bitsOf 22 = .ok (.bipush 32, 2) := by decide +kernel
theorem dX1_bitsOf_24 : decode cX1_bitsOf 24 = .ok (.iload_n 2, 1) := by decide +kernel
theorem dX1_bitsOf_25 : decode cX1_bitsOf 25 = .ok (.imul, 1) := by decide +kernel
theorem dX1_bitsOf_26 : decode cX1_bitsOf 26 = .ok (.aload_n 0, 1) := by decide +kernel
theorem dX1_bitsOf_27 : decode cX1_bitsOf 27 = .ok (.getfield 13, 3) := by decide +kernel
theorem dX1_bitsOf_30 : decode cX1_bitsOf 30 = .ok (.iload_n 1, 1) := by decide +kernel
theorem dX1_bitsOf_31 : decode cX1_bitsOf 31 = .ok (.aaload, 1) := by decide +kernel
theorem dX1_bitsOf_32 : decode cX1_bitsOf 32 = .ok (.iload_n 2, 1) := by decide +kernel
theorem dX1_bitsOf_33 : decode cX1_bitsOf 33 = .ok (.iaload, 1) := by decide +kernel
theorem dX1_bitsOf_34 : decode cX1_bitsOf 34 = .ok (.invokestatic 58, 3) := by decide +kernel
theorem dX1_bitsOf_37 : decode cX1_bitsOf 37 = .ok (.iadd, 1) := by decide +kernel
theorem dX1_bitsOf_38 : decode cX1_bitsOf 38 = .ok (.ireturn, 1) := by decide +kernel
theorem dX1_bitsOf_39 : decode cX1_bitsOf 39 = .ok (.iinc 2 (-1), 3) := by decide +kernel
theorem dX1_bitsOf_42 : decode cX1_bitsOf 42 = .ok (.goto (-35), 3) := by decide +kernel
theorem dX1_bitsOf_45 : decode cX1_bitsOf 45 = .ok (.iconst 0, 1) := by decide +kernel
theorem dX1_bitsOf_46 : decode cX1_bitsOf 46 = .ok (.ireturn, 1) := by decide +kernel
theorem dX1_wordOf_0 : decode cX1_wordOf 0 = .ok (.iload_n 2, 1) := by decide +kernel
theorem dX1_wordOf_1 : decode cX1_wordOf 1 = .ok (.aload_n 0, 1) := by decide +kernel
theorem dX1_wordOf_2 : decode cX1_wordOf 2 = .ok (.getfield 23, 3) := by decide +kernel
theorem dX1_wordOf_5 : decode cX1_wordOf 5 = .ok (.if_icmp .ge 14, 3) := by decide +kernel
theorem dX1_wordOf_8 : decode cX1_wordOf 8 = .ok (.aload_n 0, 1) := by decide +kernel
theorem dX1_wordOf_9 : decode cX1_wordOf 9 = .ok (.getfield 13, 3) := by decide +kernel
theorem dX1_wordOf_12 : decode cX1_wordOf 12 = .ok (.iload_n 1, 1) := by decide +kernel
theorem dX1_wordOf_13 : decode cX1_wordOf 13 = .ok (.aaload, 1) := by decide +kernel
theorem dX1_wordOf_14 : decode cX1_wordOf 14 = .ok (.iload_n 2, 1) := by decide +kernel
theorem dX1_wordOf_15 : decode cX1_wordOf 15 = .ok (.iaload, 1) := by decide +kernel
theorem dX1_wordOf_16 : decode cX1_wordOf 16 = .ok (.goto 4, 3) := by decide +kernel
theorem dX1_wordOf_19 : decode cX1_wordOf 19 = .ok (.iconst 0, 1) := by decide +kernel
theorem dX1_wordOf_20 : decode cX1_wordOf 20 = .ok (.ireturn, 1) := by decide +kernel
theorem dX1_residueOf_0 : decode cX1_residueOf 0 = .ok (.iload_n 2, 1) := by decide +kernel
theorem dX1_residueOf_1 : decode cX1_residueOf 1 = .ok (.iconst 1, 1) := by decide +kernel
theorem dX1_residueOf_2 : decode cX1_residueOf 2 = .ok (.if_icmp .ge 5, 3) := by decide +kernel
theorem dX1_residueOf_5 : decode cX1_residueOf 5 = .ok (.iconst 0, 1) := by decide +kernel
theorem dX1_residueOf_6 : decode cX1_residueOf 6 = .ok (.ireturn, 1) := by decide +kernel
theorem dX1_residueOf_7 : decode cX1_residueOf 7 = .ok (.lconst 0, 1) := by decide +kernel
theorem dX1_residueOf_8 : decode cX1_residueOf 8 = .ok (.lstore_n 3, 1) := by decide +kernel
theorem dX1_residueOf_9 : decode cX1_residueOf 9 = .ok (.aload_n 0, 1) := by decide +kernel
theorem dX1_residueOf_10 : decode cX1_residueOf 10 = .ok (.getfield 23, 3) := by decide +kernel
theorem dX1_residueOf_13 : decode cX1_residueOf 13 = .ok (.iconst 1, 1) := by decide +kernel
theorem dX1_residueOf_14 : decode cX1_residueOf 14 = .ok (.isub, 1) := by decide +kernel
theorem dX1_residueOf_15 : decode cX1_residueOf 15 = .ok (.istore 5, 2) := by decide +kernel
theorem dX1_residueOf_17 : decode cX1_residueOf 17 = .ok (.iload 5, 2) := by decide +kernel
theorem dX1_residueOf_19 : decode cX1_residueOf 19 = .ok (.ifCond .lt 32, 3) := by decide +kernel
theorem dX1_residueOf_22 : decode cX1_residueOf 22 = .ok (.lload_n 3, 1) := by decide +kernel
theorem dX1_residueOf_23 : decode cX1_residueOf 23 = .ok (.bipush 32, 2) := by decide +kernel
theorem dX1_residueOf_25 : decode cX1_residueOf 25 = .ok (.lshl, 1) := by decide +kernel
theorem dX1_residueOf_26 : decode cX1_residueOf 26 = .ok (.aload_n 0, 1) := by decide +kernel
theorem dX1_residueOf_27 : decode cX1_residueOf 27 = .ok (.getfield 13, 3) := by decide +kernel
theorem dX1_residueOf_30 : decode cX1_residueOf 30 = .ok (.iload_n 1, 1) := by decide +kernel
theorem dX1_residueOf_31 : decode cX1_residueOf 31 = .ok (.aaload, 1) := by decide +kernel
theorem dX1_residueOf_32 : decode cX1_residueOf 32 = .ok (.iload 5, 2) := by decide +kernel
theorem dX1_residueOf_34 : decode cX1_residueOf 34 = .ok (.iaload, 1) := by decide +kernel
theorem dX1_residueOf_35 : decode cX1_residueOf 35 = .ok (.i2l, 1) := by decide +kernel
theorem dX1_residueOf_36 : decode cX1_residueOf 36 = .ok (.ldc2_w 62, 3) := by decide +kernel
theorem dX1_residueOf_39 : decode cX1_residueOf 39 = .ok (.land, 1) := by decide +kernel
theorem dX1_residueOf_40 : decode cX1_residueOf 40 = .ok (.ladd, 1) := by decide +kernel
theorem dX1_residueOf_41 : decode cX1_residueOf 41 = .ok (.iload_n 2, 1) := by decide +kernel
theorem dX1_residueOf_42 : decode cX1_residueOf 42 = .ok (.i2l, 1) := by decide +kernel
theorem dX1_residueOf_43 : decode cX1_residueOf 43 = .ok (.lrem, 1) := by decide +kernel
theorem dX1_residueOf_44 : decode cX1_residueOf 44 = .ok (.lstore_n 3, 1) := by decide +kernel
theorem dX1_residueOf_45 : decode cX1_residueOf 45 = .ok (.iinc 5 (-1), 3) := by decide +kernel
theorem dX1_residueOf_48 : decode cX1_residueOf 48 = .ok (.goto (-31), 3) := by decide +kernel
theorem dX1_residueOf_51 : decode cX1_residueOf 51 = .ok (.aload_n 0, 1) := by decide +kernel
theorem dX1_residueOf_52 : decode cX1_residueOf 52 = .ok (.getfield 16, 3) := by decide +kernel
theorem dX1_residueOf_55 : decode cX1_residueOf 55 = .ok (.iload_n 1, 1) := by decide +kernel
theorem dX1_residueOf_56 : decode cX1_residueOf 56 = .ok (.iaload, 1) := by decide +kernel
theorem dX1_residueOf_57 : decode cX1_residueOf 57 = .ok (.ifCond .ge 16, 3) := by decide +kernel
theorem dX1_residueOf_60 : decode cX1_residueOf 60 = .ok (.lload_n 3, 1) := by decide +kernel
theorem dX1_residueOf_61 : decode cX1_residueOf 61 = .ok (.lconst 0, 1) := by decide +kernel
theorem dX1_residueOf_62 : decode cX1_residueOf 62 = .ok (.lcmp, 1) := by decide +kernel
theorem dX1_residueOf_63 : decode cX1_residueOf 63 = .ok (.ifCond .eq 10, 3) := by decide +kernel
theorem dX1_residueOf_66 : decode cX1_residueOf 66 = .ok (.iload_n 2, 1) := by decide +kernel
theorem dX1_residueOf_67 : decode cX1_residueOf 67 = .ok (.i2l, 1) := by decide +kernel
theorem dX1_residueOf_68 : decode cX1_residueOf 68 = .ok (.lload_n 3, 1) := by decide +kernel
theorem dX1_residueOf_69 : decode cX1_residueOf 69 = .ok (.lsub, 1) := by decide +kernel
theorem dX1_residueOf_70 : decode cX1_residueOf 70 = .ok (.goto 4, 3) := by decide +kernel
theorem dX1_residueOf_73 : decode cX1_residueOf 73 = .ok (.lload_n 3, 1) := by decide +kernel
theorem dX1_residueOf_74 : decode cX1_residueOf 74 = .ok (.l2i, 1) := by decide +kernel
theorem dX1_residueOf_75 : decode cX1_residueOf 75 = .ok (.ireturn, 1) := by decide +kernel
theorem dX1_isTooGreat_0 : decode cX1_isTooGreat 0 = .ok (.lload_n 0, 1) := by decide +kernel
theorem dX1_isTooGreat_1 : decode cX1_isTooGreat 1 = .ok (.ldc2_w 64, 3) := by decide +kernel
theorem dX1_isTooGreat_4 : decode cX1_isTooGreat 4 = .ok (.lcmp, 1) := by decide +kernel
theorem dX1_isTooGreat_5 : decode cX1_isTooGreat 5 = .ok (.ifCond .gt 11, 3) := by decide +kernel
theorem dX1_isTooGreat_8 : decode cX1_isTooGreat 8 = .ok (.lload_n 0, 1) := by decide +kernel
theorem dX1_isTooGreat_9 : decode cX1_isTooGreat 9 = .ok (.ldc2_w 66, 3) := by decide +kernel
theorem dX1_isTooGreat_12 : decode cX1_isTooGreat 12 = .ok (.lcmp, 1) := by decide +kernel
theorem dX1_isTooGreat_13 : decode cX1_isTooGreat 13 = .ok (.ifCond .ge 7, 3) := by decide +kernel
theorem dX1_isTooGreat_16 : decode cX1_isTooGreat 16 = .ok (.iconst 1, 1) := by decide +kernel
theorem dX1_isTooGreat_17 : decode cX1_isTooGreat 17 = .ok (.goto 4, 3) := by decide +kernel
theorem dX1_isTooGreat_20 : decode cX1_isTooGreat 20 = .ok (.iconst 0, 1) := by decide +kernel
theorem dX1_isTooGreat_21 : decode cX1_isTooGreat 21 = .ok (.ireturn, 1) := by decide +kernel
theorem dX1_bitsOfWord_0 : decode cX1_bitsOfWord 0 = .ok (.bipush 31, 2) := by decide +kernel
theorem dX1_bitsOfWord_2 : decode cX1_bitsOfWord 2 = .ok (.istore_n 1, 1) := by decide +kernel
theorem dX1_bitsOfWord_3 : decode cX1_bitsOfWord 3 = .ok (.iload_n 1, 1) := by decide +kernel
theorem dX1_bitsOfWord_4 : decode cX1_bitsOfWord 4 = .ok (.ifCond .le 19, 3) := by decide +kernel
theorem dX1_bitsOfWord_7 : decode cX1_bitsOfWord 7 = .ok (.iload_n 0, 1) := by decide +kernel
theorem dX1_bitsOfWord_8 : decode cX1_bitsOfWord 8 = .ok (.iload_n 1, 1) := by decide +kernel
theorem dX1_bitsOfWord_9 : decode cX1_bitsOfWord 9 = .ok (.iushr, 1) := by decide +kernel
theorem dX1_bitsOfWord_10 : decode cX1_bitsOfWord 10 = .ok (.ifCond .eq 7, 3) := by decide +kernel
theorem dX1_bitsOfWord_13 : decode cX1_bitsOfWord 13 = .ok (.iload_n 1, 1) := by decide +kernel
theorem dX1_bitsOfWord_14 : decode cX1_bitsOfWord 14 = .ok (.iconst 1, 1) := by decide +kernel
theorem dX1_bitsOfWord_15 : decode cX1_bitsOfWord 15 = .ok (.iadd, 1) := by decide +kernel
theorem dX1_bitsOfWord_16 : decode cX1_bitsOfWord 16 = .ok (.ireturn, 1) := by decide +kernel
theorem dX1_bitsOfWord_17 : decode cX1_bitsOfWord 17 = .ok (.iinc 1 (-1), 3) := by decide +kernel
theorem dX1_bitsOfWord_20 : decode cX1_bitsOfWord 20 = .ok (.goto (-17), 3) := by decide +kernel
theorem dX1_bitsOfWord_23 : decode cX1_bitsOfWord 23 = .ok (.iload_n 0, 1) := by decide +kernel
theorem dX1_bitsOfWord_24 : decode cX1_bitsOfWord 24 = .ok (.ireturn, 1) := by decide +kernel
theorem dX1_forgetWaiting_0 : decode cX1_forgetWaiting 0 = .ok (.aload_n 0, 1) := by decide +kernel
theorem dX1_forgetWaiting_1 : decode cX1_forgetWaiting 1 = .ok (.lconst 1, 1) := by decide +kernel
theorem dX1_forgetWaiting_2 : decode cX1_forgetWaiting 2 = .ok (.putfield 30, 3) := by decide +kernel
theorem dX1_forgetWaiting_5 : decode cX1_forgetWaiting 5 = .ok (.aload_n 0, 1) := by decide +kernel
theorem dX1_forgetWaiting_6 : decode cX1_forgetWaiting 6 = .ok (.lconst 0, 1) := by decide +kernel
theorem dX1_forgetWaiting_7 : decode cX1_forgetWaiting 7 = .ok (.putfield 41, 3) := by decide +kernel
theorem dX1_forgetWaiting_10 : decode cX1_forgetWaiting 10 = .ok (.aload_n 0, 1) := by decide +kernel
theorem dX1_forgetWaiting_11 : decode cX1_forgetWaiting 11 = .ok (.lconst 0, 1) := by decide +kernel
theorem dX1_forgetWaiting_12 : decode cX1_forgetWaiting 12 = .ok (.putfield 34, 3) := by decide +kernel
theorem dX1_forgetWaiting_15 : decode cX1_forgetWaiting 15 = .ok (.aload_n 0, 1) := by decide +kernel
theorem dX1_forgetWaiting_16 : decode cX1_forgetWaiting 16 = .ok (.lconst 1, 1) := by decide +kernel
theorem dX1_forgetWaiting_17 : decode cX1_forgetWaiting 17 = .ok (.putfield 44, 3) := by decide +kernel
theorem dX1_forgetWaiting_20 : decode cX1_forgetWaiting 20 = .ok (.return_, 1) := by decide +kernel
set_option maxRecDepth 20000 in
theorem ggX1_multiplyWaiting_X1_lengthen : GoodIn wsX1_multiplyWaiting wsX1_lengthen := goodIn_r _ [6, 7, 1, 25, 26, 27, 28, 29, 30, 31] (by decide +kernel) (by decide +kernel)
set_option maxRecDepth 20000 in
theorem gX1_multiplyWaiting_X1_lengthen : GoodIn wsX1_multiplyWaiting (wsV RX1 68 RX1 yX1_lengthen wsX1_lengthen) := goodIn_app (goodIn_of _ (by decide +kernel)) ggX1_multiplyWaiting_X1_lengthen
set_option maxRecDepth 20000 in
theorem ggX1_multiplyWaiting_X1_multiplyColumn : GoodIn wsX1_multiplyWaiting wsX1_multiplyColumn := goodIn_r _ [11, 7, 12, 13, 14, 15, 16, 25, 26, 27, 28, 29, 30, 31] (by decide +kernel) (by decide +kernel)
