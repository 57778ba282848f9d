theorem dX3_isName_24 : decode cX3_isName 24 = .ok (.iconst 1, 1) := by decide +kernel
theorem dX3_isName_25 : decode cX3_isName 25 = .ok (.goto 4, 3) := by decide +kernel
theorem dX3_isName_28 : decode cX3_isName 28 = .ok (.iconst 0, 1) := by decide +kernel
theorem dX3_isName_29 : decode cX3_isName 29 = .ok (.ireturn, 1) := by decide +kernel
set_option maxRecDepth 20000 in
theorem ggX3_toName_X3_step : GoodIn wsX3_toName wsX3_step := goodIn_r _ [8, 9, 3, 2, 10, 11, 1, 12, 13, 7, 14, 19, 20, 21, 22, 23, 24, 25, 26, 27, 28, 29, 30, 31, 32, 33] (by decide +kernel) (by decide +kernel)
set_option maxRecDepth 20000 in
theorem gX3_toName_X3_step : GoodIn wsX3_toName (wsV RX3 90 RX3 yX3_step wsX3_step) := goodIn_app (goodIn_of _ (by decide +kernel)) ggX3_toName_X3_step
set_option maxRecDepth 20000 in
theorem ggX3_toName_X3_begin : GoodIn wsX3_toName wsX3_begin := goodIn_r _ [18, 1, 2, 3, 19, 20, 21, 22, 23, 24, 25, 26, 27, 28, 29, 30, 31, 32, 33] (by decide +kernel) (by decide +kernel)
set_option maxRecDepth 20000 in
theorem gX3_toName_X3_begin : GoodIn wsX3_toName (wsV RX3 97 RX3 yX3_begin wsX3_begin) := goodIn_app (goodIn_of _ (by decide +kernel)) ggX3_toName_X3_begin
theorem dX3_toName_0 : decode cX3_toName 0 = .ok (.lload_n 1, 1) := by decide +kernel
theorem dX3_toName_1 : decode cX3_toName 1 = .ok (.lconst 0, 1) := by decide +kernel
theorem dX3_toName_2 : decode cX3_toName 2 = .ok (.lcmp, 1) := by decide +kernel
theorem dX3_toName_3 : decode cX3_toName 3 = .ok (.ifCond .ge 4, 3) := by decide +kernel
theorem dX3_toName_6 : decode cX3_toName 6 = .ok (.return_, 1) := by decide +kernel
theorem dX3_toName_7 : decode cX3_toName 7 = .ok (.aload_n 0, 1) := by decide +kernel
theorem dX3_toName_8 : decode cX3_toName 8 = .ok (.getfield 69, 3) := by decide +kernel
theorem dX3_toName_11 : decode cX3_toName 11 = .ok (.lstore 5, 2) := by decide +kernel
theorem dX3_toName_13 : decode cX3_toName 13 = .ok (.aload_n 0, 1) := by decide +kernel
theorem dX3_toName_14 : decode cX3_toName 14 = .ok (.getfield 72, 3) := by decide +kernel
theorem dX3_toName_17 : decode cX3_toName 17 = .ok (.lstore 7, 2) := by decide +kernel
theorem dX3_toName_19 : decode cX3_toName 19 = .ok (.aload_n 0, 1) := by decide +kernel
theorem dX3_toName_20 : decode cX3_toName 20 = .ok (.getfield 75, 3) := by decide +kernel
theorem dX3_toName_23 : decode cX3_toName 23 = .ok (.lstore 9, 2) := by decide +kernel
theorem dX3_toName_25 : decode cX3_toName 25 = .ok (.aload_n 0, 1) := by decide +kernel
theorem dX3_toName_26 : decode cX3_toName 26 = .ok (.getfield 69, 3) := by decide +kernel
theorem dX3_toName_29 : decode cX3_toName 29 = .ok (.lstore 11, 2) := by decide +kernel
theorem dX3_toName_31 : decode cX3_toName 31 = .ok (.aload_n 0, 1) := by decide +kernel
theorem dX3_toName_32 : decode cX3_toName 32 = .ok (.getfield 72, 3) := by decide +kernel
theorem dX3_toName_35 : decode cX3_toName 35 = .ok (.lstore 13, 2) := by decide +kernel
theorem dX3_toName_37 : decode cX3_toName 37 = .ok (.aload_n 0, 1) := by decide +kernel
theorem dX3_toName_38 : decode cX3_toName 38 = .ok (.getfield 75, 3) := by decide +kernel
theorem dX3_toName_41 : decode cX3_toName 41 = .ok (.lstore 15, 2) := by decide +kernel
theorem dX3_toName_43 : decode cX3_toName 43 = .ok (.aload_n 0, 1) := by decide +kernel
theorem dX3_toName_44 : decode cX3_toName 44 = .ok (.lload_n 1, 1) := by decide +kernel
theorem dX3_toName_45 : decode cX3_toName 45 = .ok (.lload_n 3, 1) := by decide +kernel
theorem dX3_toName_46 : decode cX3_toName 46 = .ok (.invokevirtual 90, 3) := by decide +kernel
theorem dX3_toName_49 : decode cX3_toName 49 = .ok (.aload_n 0, 1) := by decide +kernel
theorem dX3_toName_50 : decode cX3_toName 50 = .ok (.getfield 69, 3) := by decide +kernel
theorem dX3_toName_53 : decode cX3_toName 53 = .ok (.lload 5, 2) := by decide +kernel
theorem dX3_toName_55 : decode cX3_toName 55 = .ok (.lcmp, 1) := by decide +kernel
theorem dX3_toName_56 : decode cX3_toName 56 = .ok (.ifCond .ne 23, 3) := by decide +kernel
theorem dX3_toName_59 : decode cX3_toName 59 = .ok (.aload_n 0, 1) := by decide +kernel
theorem dX3_toName_60 : decode cX3_toName 60 = .ok (.getfield 72, 3) := by decide +kernel
theorem dX3_toName_63 : decode cX3_toName 63 = .ok (.lload 7, 2) := by decide +kernel
theorem dX3_toName_65 : decode cX3_toName 65 = .ok (.lcmp, 1) := by decide +kernel
theorem dX3_toName_66 : decode cX3_toName 66 = .ok (.ifCond .ne 13, 3) := by decide +kernel
theorem dX3_toName_69 : decode cX3_toName 69 = .ok (.aload_n 0, 1) := by decide +kernel
theorem dX3_toName_70 : decode cX3_toName 70 = .ok (.getfield 75, 3) := by decide +kernel
theorem dX3_toName_73 : decode cX3_toName 73 = .ok (.lload 9, 2) := by decide +kernel
theorem dX3_toName_75 : decode cX3_toName 75 = .ok (.lcmp, 1) := by decide +kernel
theorem dX3_toName_76 : decode cX3_toName 76 = .ok (.ifCond .eq 60, 3) := by decide +kernel
theorem dX3_toName_79 : decode cX3_toName 79 = .ok (.aload_n 0, 1) := by decide +kernel
theorem dX3_toName_80 : decode cX3_toName 80 = .ok (.getfield 69, 3) := by decide +kernel
theorem dX3_toName_83 : decode cX3_toName 83 = .ok (.lload 11, 2) := by decide +kernel
theorem dX3_toName_85 : decode cX3_toName 85 = .ok (.lcmp, 1) := by decide +kernel
theorem dX3_toName_86 : decode cX3_toName 86 = .ok (.ifCond .lt 23, 3) := by decide +kernel
theorem dX3_toName_89 : decode cX3_toName 89 = .ok (.aload_n 0, 1) := by decide +kernel
theorem dX3_toName_90 : decode cX3_toName 90 = .ok (.getfield 69, 3) := by decide +kernel
theorem dX3_toName_93 : decode cX3_toName 93 = .ok (.lload 11, 2) := by decide +kernel
theorem dX3_toName_95 : decode cX3_toName 95 = .ok (.lcmp, 1) := by decide +kernel
theorem dX3_toName_96 : decode cX3_toName 96 = .ok (.ifCond .ne 31, 3) := by decide +kernel
theorem dX3_toName_99 : decode cX3_toName 99 = .ok (.aload_n 0, 1) := by decide +kernel
theorem dX3_toName_100 : decode cX3_toName 100 = .ok (.getfield 72, 3) := by decide +kernel
theorem dX3_toName_103 : decode cX3_toName 103 = .ok (.lload 13, 2) := by decide +kernel
theorem dX3_toName_105 : decode cX3_toName 105 = .ok (.lcmp, 1) := by decide +kernel
theorem dX3_toName_106 : decode cX3_toName 106 = .ok (.ifCond .ge 21, 3) := by decide +kernel
theorem dX3_toName_109 : decode cX3_toName 109 = .ok (.aload_n 0, 1) := by decide +kernel
theorem dX3_toName_110 : decode cX3_toName 110 = .ok (.getfield 69, 3) := by decide +kernel
theorem dX3_toName_113 : decode cX3_toName 113 = .ok (.lstore 11, 2) := by decide +kernel
theorem dX3_toName_115 : decode cX3_toName 115 = .ok (.aload_n 0, 1) := by decide +kernel
theorem dX3_toName_116 : decode cX3_toName 116 = .ok (.getfield 72, 3) := by decide +kernel
theorem dX3_toName_119 : decode cX3_toName 119 = .ok (.lstore 13, 2) := by decide +kernel
theorem dX3_toName_121 : decode cX3_toName 121 = .ok (.aload_n 0, 1) := by decide +kernel
theorem dX3_toName_122 : decode cX3_toName 122 = .ok (.getfield 75, 3) := by decide +kernel
theorem dX3_toName_125 : decode cX3_toName 125 = .ok (.lstore 15, 2) := by decide +kernel
theorem dX3_toName_127 : decode cX3_toName 127 = .ok (.aload_n 0, 1) := by decide +kernel
theorem dX3_toName_128 : decode cX3_toName 128 = .ok (.lload_n 1, 1) := by decide +kernel
theorem dX3_toName_129 : decode cX3_toName 129 = .ok (.lload_n 3, 1) := by decide +kernel
theorem dX3_toName_130 : decode cX3_toName 130 = .ok (.invokevirtual 90, 3) := by decide +kernel
theorem dX3_toName_133 : decode cX3_toName 133 = .ok (.goto (-84), 3) := by decide +kernel
theorem dX3_toName_136 : decode cX3_toName 136 = .ok (.aload_n 0, 1) := by decide +kernel
theorem dX3_toName_137 : decode cX3_toName 137 = .ok (.lload 11, 2) := by decide +kernel
theorem dX3_toName_139 : decode cX3_toName 139 = .ok (.lload 13, 2) := by decide +kernel
theorem dX3_toName_141 : decode cX3_toName 141 = .ok (.lload 15, 2) := by decide +kernel
theorem dX3_toName_143 : decode cX3_toName 143 = .ok (.invokevirtual 97, 3) := by decide +kernel
theorem dX3_toName_146 : decode cX3_toName 146 = .ok (.return_, 1) := by decide +kernel
theorem dX3_get_0 : decode cX3_get 0 = .ok (.aload_n 0, 1) := by decide +kernel
theorem dX3_get_1 : decode cX3_get 1 = .ok (.getfield 36, 3) := by decide +kernel
theorem dX3_get_4 : decode cX3_get 4 = .ok (.sipush 1100, 3) := by decide +kernel
theorem dX3_get_7 : decode cX3_get 7 = .ok (.iload_n 1, 1) := by decide +kernel
theorem dX3_get_8 : decode cX3_get 8 = .ok (.imul, 1) := by decide +kernel
theorem dX3_get_9 : decode cX3_get 9 = .ok (.iload_n 2, 1) := by decide +kernel
theorem dX3_get_10 : decode cX3_get 10 = .ok (.iadd, 1) := by decide +kernel
theorem dX3_get_11 : decode cX3_get 11 = .ok (.iaload, 1) := by decide +kernel
theorem dX3_get_12 : decode cX3_get 12 = .ok (.ireturn, 1) := by decide +kernel
theorem dX3_put_0 : decode cX3_put 0 = .ok (.aload_n 0, 1) := by decide +kernel
theorem dX3_put_1 : decode cX3_put 1 = .ok (.getfield 36, 3) := by decide +kernel
theorem dX3_put_4 : decode cX3_put 4 = .ok (.sipush 1100, 3) := by decide +kernel
theorem dX3_put_7 : decode cX3_put 7 = .ok (.iload_n 1, 1) := by decide +kernel
theorem dX3_put_8 : decode cX3_put 8 = .ok (.imul, 1) := by decide +kernel
theorem dX3_put_9 : decode cX3_put 9 = .ok (.iload_n 2, 1) := by decide +kernel
theorem dX3_put_10 : decode cX3_put 10 = .ok (.iadd, 1) := by decide +kernel
theorem dX3_put_11 : decode cX3_put 11 = .ok (.iload_n 3, 1) := by decide +kernel
theorem dX3_put_12 : decode cX3_put 12 = .ok (.iastore, 1) := by decide +kernel
theorem dX3_put_13 : decode cX3_put 13 = .ok (.return_, 1) := by decide +kernel
set_option maxRecDepth 20000 in
theorem ggX3_isBelow_X3_get : GoodIn wsX3_isBelow wsX3_get := goodIn_r _ [6, 7, 8, 9, 10, 11, 12, 13, 14, 15, 16, 17, 18, 19, 20, 21, 22] (by decide +kernel) (by decide +kernel)
set_option maxRecDepth 20000 in
theorem gX3_isBelow_X3_get : GoodIn wsX3_isBelow (wsV RX3 101 RX3 yX3_get wsX3_get) := goodIn_app (goodIn_of _ (by decide +kernel)) ggX3_isBelow_X3_get
theorem dX3_isBelow_0 : decode cX3_isBelow 0 = .ok (.aload_n 0, 1) := by decide +kernel
theorem dX3_isBelow_1 : decode cX3_isBelow 1 = .ok (.iload_n 1, 1) := by decide +kernel
theorem dX3_isBelow_2 : decode cX3_isBelow 2 = .ok (.aload_n 0, 1) := by decide +kernel
theorem dX3_isBelow_3 : decode cX3_isBelow 3 = .ok (.getfield 32, 3) := by decide +kernel
theorem dX3_isBelow_6 : decode cX3_isBelow 6 = .ok (.iconst 1, 1) := by decide +kernel
theorem dX3_isBelow_7 : decode cX3_isBelow 7 = .ok (.isub, 1) := by decide +kernel
theorem dX3_isBelow_8 : decode cX3_isBelow 8 = .ok (.invokevirtual 101, 3) := by decide +kernel
theorem dX3_isBelow_11 : decode cX3_isBelow 11 = .ok (.sipush 32767, 3) := by decide +kernel
theorem dX3_isBelow_14 : decode cX3_isBelow 14 = .ok (.if_icmp .le 7, 3) := by decide +kernel
theorem dX3_isBelow_17 : decode cX3_isBelow 17 = .ok (.iconst 1, 1) := by decide +kernel
theorem dX3_isBelow_18 : decode cX3_isBelow 18 = .ok (.goto 4, 3) := by decide +kernel
theorem dX3_isBelow_21 : decode cX3_isBelow 21 = .ok (.iconst 0, 1) := by decide +kernel
theorem dX3_isBelow_22 : decode cX3_isBelow 22 = .ok (.ireturn, 1) := by decide +kernel
set_option maxRecDepth 20000 in
theorem ggX3_hasRoom_X3_isBelow : GoodIn wsX3_hasRoom wsX3_isBelow := goodIn_r _ [7, 2, 8, 9, 10, 6, 11, 12, 13, 14, 15, 16, 17, 18, 19, 20, 21, 22, 23, 24, 25, 26, 27] (by decide +kernel) (by decide +kernel)
set_option maxRecDepth 20000 in
theorem gX3_hasRoom_X3_isBelow : GoodIn wsX3_hasRoom (wsV RX3 105 RX3 yX3_isBelow wsX3_isBelow) := goodIn_app (goodIn_of _ (by decide +kernel)) ggX3_hasRoom_X3_isBelow
set_option maxRecDepth 20000 in
theorem ggX3_hasRoom_X3_get : GoodIn wsX3_hasRoom wsX3_get := goodIn_r _ [11, 12, 13, 14, 15, 16, 17, 18, 19, 20, 21, 22, 23, 24, 25, 26, 27] (by decide +kernel) (by decide +kernel)
set_option maxRecDepth 20000 in
theorem gX3_hasRoom_X3_get : GoodIn wsX3_hasRoom (wsV RX3 101 RX3 yX3_get wsX3_get) := goodIn_app (goodIn_of _ (by decide +kernel)) ggX3_hasRoom_X3_get
theorem dX3_hasRoom_0 : decode cX3_hasRoom 0 = .ok (.aload_n 0, 1) := by decide +kernel
theorem dX3_hasRoom_1 : decode cX3_hasRoom 1 = .ok (.iload_n 1, 1) := by decide +kernel
theorem dX3_hasRoom_2 : decode cX3_hasRoom 2 = .ok (.invokevirtual 105, 3) := by decide +kernel
theorem dX3_hasRoom_5 : decode cX3_hasRoom 5 = .ok (.ifCond .eq 8, 3) := by decide +kernel
theorem dX3_hasRoom_8 : decode cX3_hasRoom 8 = .ok (.ldc 109, 2) := by decide +kernel
theorem dX3_hasRoom_10 : decode cX3_hasRoom 10 = .ok (.goto 4, 3) := by decide +kernel
theorem dX3_hasRoom_13 : decode cX3_hasRoom 13 = .ok (.iconst 0, 1) := by decide +kernel
theorem dX3_hasRoom_14 : decode cX3_hasRoom 14 = .ok (.istore_n 2, 1) := by decide +kernel
theorem dX3_hasRoom_15 : decode cX3_hasRoom 15 = .ok (.aload_n 0, 1) := by decide +kernel
theorem dX3_hasRoom_16 : decode cX3_hasRoom 16 = .ok (.iload_n 1, 1) := by decide +kernel
theorem dX3_hasRoom_17 : decode cX3_hasRoom 17 = .ok (.aload_n 0, 1) := by decide +kernel
theorem dX3_hasRoom_18 : decode cX3_hasRoom 18 = .ok (.getfield 32, 3) := by decide +kernel
theorem dX3_hasRoom_21 : decode cX3_hasRoom 21 = .ok (.iconst 1, 1) := by decide +kernel
theorem dX3_hasRoom_22 : decode cX3_hasRoom 22 = .ok (.isub, 1) := by decide +kernel
theorem dX3_hasRoom_23 : decode cX3_hasRoom 23 = .ok (.invokevirtual 101, 3) := by decide +kernel
theorem dX3_hasRoom_26 : decode cX3_hasRoom 26 = .ok (.iload_n 2, 1) := by decide +kernel
theorem dX3_hasRoom_27 : decode cX3_hasRoom 27 = .ok (.if_icmp .ne 37, 3) := by decide +kernel
theorem dX3_hasRoom_30 : decode cX3_hasRoom 30 = .ok (.aload_n 0, 1) := by decide +kernel
theorem dX3_hasRoom_31 : decode cX3_hasRoom 31 = .ok (.iload_n 1, 1) := by decide +kernel
theorem dX3_hasRoom_32 : decode cX3_hasRoom 32 = .ok (.aload_n 0, 1) := by decide +kernel
theorem dX3_hasRoom_33 : decode cX3_hasRoom 33 = .ok (.getfield 32, 3) := by decide +kernel
theorem dX3_hasRoom_36 : decode cX3_hasRoom 36 = .ok (.iconst 2, 1) := by decide +kernel
theorem dX3_hasRoom_37 : decode cX3_hasRoom 37 = .ok (.isub, 1) := by decide +kernel
theorem dX3_hasRoom_38 : decode cX3_hasRoom 38 = .ok (.invokevirtual 101, 3) := by decide +kernel
theorem dX3_hasRoom_41 : decode cX3_hasRoom 41 = .ok (.iload_n 2, 1) := by decide +kernel
theorem dX3_hasRoom_42 : decode cX3_hasRoom 42 = .ok (.if_icmp .ne 22, 3) := by decide +kernel
theorem dX3_hasRoom_45 : decode cX3_hasRoom 45 = .ok (.aload_n 0, 1) := by decide +kernel
theorem dX3_hasRoom_46 : decode cX3_hasRoom 46 = .ok (.iload_n 1, 1) := by decide +kernel
theorem dX3_hasRoom_47 : decode cX3_hasRoom 47 = .ok (.aload_n 0, 1) := by decide +kernel
theorem dX3_hasRoom_48 : decode cX3_hasRoom 48 = .ok (.getfield 32, 3) := by decide +kernel
theorem dX3_hasRoom_51 : decode cX3_hasRoom 51 = .ok (.iconst 3, 1) := by decide +kernel
theorem dX3_hasRoom_52 : decode cX3_hasRoom 52 = .ok (.isub, 1) := by decide +kernel
theorem dX3_hasRoom_53 : decode cX3_hasRoom 53 = .ok (.invokevirtual 101, 3) := by decide +kernel
theorem dX3_hasRoom_56 : decode cX3_hasRoom 56 = .ok (.iload_n 2, 1) := by decide +kernel
theorem dX3_hasRoom_57 : decode cX3_hasRoom 57 = .ok (.if_icmp .ne 7, 3) := by decide +kernel
theorem dX3_hasRoom_60 : decode cX3_hasRoom 60 = .ok (.iconst 1, 1) := by decide +kernel
theorem dX3_hasRoom_61 : decode cX3_hasRoom 61 = .ok (.goto 4, 3) := by decide +kernel
theorem dX3_hasRoom_64 : decode cX3_hasRoom 64 = .ok (.iconst 0, 1) := by decide +kernel
theorem dX3_hasRoom_65 : decode cX3_hasRoom 65 = .ok (.ireturn, 1) := by decide +kernel
set_option maxRecDepth 20000 in
theorem ggX3_widen_X3_isBelow : GoodIn wsX3_widen wsX3_isBelow := goodIn_r _ [7, 2, 8, 9, 10, 6, 11, 12, 17, 18, 19, 20, 21, 22, 23, 24, 25, 26, 27, 28, 29, 30, 31] (by decide +kernel) (by decide +kernel)
set_option maxRecDepth 20000 in
theorem gX3_widen_X3_isBelow : GoodIn wsX3_widen (wsV RX3 105 RX3 yX3_isBelow wsX3_isBelow) := goodIn_app (goodIn_of _ (by decide +kernel)) ggX3_widen_X3_isBelow
set_option maxRecDepth 20000 in
theorem ggX3_widen_X3_put : GoodIn wsX3_widen wsX3_put := goodIn_r _ [16, 12, 17, 18, 19, 20, 21, 22, 23, 24, 25, 26, 27, 28, 29, 30, 31] (by decide +kernel) (by decide +kernel)
set_option maxRecDepth 20000 in
theorem gX3_widen_X3_put : GoodIn wsX3_widen (wsV RX3 40 RX3 yX3_put wsX3_put) := goodIn_app (goodIn_of _ (by decide +kernel)) ggX3_widen_X3_put
theorem dX3_widen_0 : decode cX3_widen 0 = .ok (.iconst 0, 1) := by decide +kernel
theorem dX3_widen_1 : decode cX3_widen 1 = .ok (.istore_n 1, 1) := by decide +kernel
theorem dX3_widen_2 : decode cX3_widen 2 = .ok (.iload_n 1, 1) := by decide +kernel
theorem dX3_widen_3 : decode cX3_widen 3 = .ok (.iconst 4, 1) := by decide +kernel
theorem dX3_widen_4 : decode cX3_widen 4 = .ok (.if_icmp .ge 52, 3) := by decide +kernel
theorem dX3_widen_7 : decode cX3_widen 7 = .ok (.aload_n 0, 1) := by decide +kernel
theorem dX3_widen_8 : decode cX3_widen 8 = .ok (.iload_n 1, 1) := by decide +kernel
theorem dX3_widen_9 : decode cX3_widen 9 = .ok (.invokevirtual 105, 3) := by decide +kernel
theorem dX3_widen_12 : decode cX3_widen 12 = .ok (.ifCond .eq 8, 3) := by decide +kernel
theorem dX3_widen_15 : decode cX3_widen 15 = .ok (.ldc 109, 2) := by decide +kernel
theorem dX3_widen_17 : decode cX3_widen 17 = .ok (.goto 4, 3) := by decide +kernel
theorem dX3_widen_20 : decode cX3_widen 20 = .ok (.iconst 0, 1) := by decide +kernel
theorem dX3_widen_21 : decode cX3_widen 21 = .ok (.istore_n 2, 1) := by decide +kernel
theorem dX3_widen_22 : decode cX3_widen 22 = .ok (.aload_n 0, 1) := by decide +kernel
theorem dX3_widen_23 : decode cX3_widen 23 = .ok (.getfield 32, 3) := by decide +kernel
theorem dX3_widen_26 : decode cX3_widen 26 = .ok (.istore_n 3, 1) := by decide +kernel
theorem dX3_widen_27 : decode cX3_widen 27 = .ok (.iload_n 3, 1) := by decide +kernel
theorem dX3_widen_28 : decode cX3_widen 28 = .ok (.aload_n 0, 1) := by decide +kernel
theorem dX3_widen_29 : decode cX3_widen 29 = .ok (.getfield 32, 3) := by decide +kernel
theorem dX3_widen_32 : decode cX3_widen 32 = .ok (.iconst 3, 1) := by decide +kernel
theorem dX3_widen_33 : decode cX3_widen 33 = .ok (.iadd, 1) := by decide +kernel
theorem dX3_widen_34 : decode cX3_widen 34 = .ok (.if_icmp .ge 16, 3) := by decide +kernel
theorem dX3_widen_37 : decode cX3_widen 37 = .ok (.aload_n 0, 1) := by decide +kernel
theorem dX3_widen_38 : decode cX3_widen 38 = .ok (.iload_n 1, 1) := by decide +kernel
theorem dX3_widen_39 : decode cX3_widen 39 = .ok (.iload_n 3, 1) := by decide +kernel
theorem dX3_widen_40 : decode cX3_widen 40 = .ok (.iload_n 2, 1) := by decide +kernel
theorem dX3_widen_41 : decode cX3_widen 41 = .ok (.invokevirtual 40, 3) := by decide +kernel
theorem dX3_widen_44 : decode cX3_widen 44 = .ok (.iinc 3 1, 3) := by decide +kernel
theorem dX3_widen_47 : decode cX3_widen 47 = .ok (.goto (-20), 3) := by decide +kernel
theorem dX3_widen_50 : decode cX3_widen 50 = .ok (.iinc 1 1, 3) := by decide +kernel
theorem dX3_widen_53 : decode cX3_widen 53 = .ok (.goto (-51), 3) := by decide +kernel
theorem dX3_widen_56 : decode cX3_widen 56 = .ok (.aload_n 0, 1) := by decide +kernel
theorem dX3_widen_57 : decode cX3_widen 57 = .ok (.dup, 1) := by decide +kernel
theorem dX3_widen_58 : decode cX3_widen 58 = .ok (.getfield 32, 3) := by decide +kernel
theorem dX3_widen_61 : decode cX3_widen 61 = .ok (.iconst 3, 1) := by decide +kernel
theorem dX3_widen_62 : decode cX3_widen 62 = .ok (.iadd, 1) := by decide +kernel
theorem dX3_widen_63 : decode cX3_widen 63 = .ok (.putfield 32, 3) := by decide +kernel
theorem dX3_widen_66 : decode cX3_widen 66 = .ok (.return_, 1) := by decide +kernel
set_option maxRecDepth 20000 in
theorem ggX3_combine_X3_get : GoodIn wsX3_combine wsX3_get := goodIn_r _ [7, 8, 13, 14, 15, 16, 17, 18, 19, 20, 21, 22, 23, 24, 25, 26, 27] (by decide +kernel) (by decide +kernel)
set_option maxRecDepth 20000 in
theorem gX3_combine_X3_get : GoodIn wsX3_combine (wsV RX3 101 RX3 yX3_get wsX3_get) := goodIn_app (goodIn_of _ (by decide +kernel)) ggX3_combine_X3_get
set_option maxRecDepth 20000 in
theorem ggX3_combine_X3_put : GoodIn wsX3_combine wsX3_put := goodIn_r _ [12, 8, 13, 14, 15, 16, 17, 18, 19, 20, 21, 22, 23, 24, 25, 26, 27] (by decide +kernel) (by decide +kernel)
set_option maxRecDepth 20000 in
theorem gX3_combine_X3_put : GoodIn wsX3_combine (wsV RX3 40 RX3 yX3_put wsX3_put) := goodIn_app (goodIn_of _ (by decide +kernel)) ggX3_combine_X3_put
theorem dX3_combine_0 : decode cX3_combine 0 = .ok (.lconst 0, 1) := by decide +kernel
theorem dX3_combine_1 : decode cX3_combine 1 = .ok (.lstore 6, 2) := by decide +kernel
theorem dX3_combine_3 : decode cX3_combine 3 = .ok (.iconst 0, 1) := by decide +kernel
theorem dX3_combine_4 : decode cX3_combine 4 = .ok (.istore 8, 2) := by decide +kernel
theorem dX3_combine_6 : decode cX3_combine 6 = .ok (.iload 8, 2) := by decide +kernel
theorem dX3_combine_8 : decode cX3_combine 8 = .ok (.aload_n 0, 1) := by decide +kernel
theorem dX3_combine_9 : decode cX3_combine 9 = .ok (.getfield 32, 3) := by decide +kernel
theorem dX3_combine_12 : decode cX3_combine 12 = .ok (.if_icmp .ge 55, 3) := by decide +kernel
theorem dX3_combine_15 : decode cX3_combine 15 = .ok (.lload_n 3, 1) := by decide +kernel
theorem dX3_combine_16 : decode cX3_combine 16 = .ok (.aload_n 0, 1) := by decide +kernel
theorem dX3_combine_17 : decode cX3_combine 17 = .ok (.iload_n 2, 1) := by decide +kernel
theorem dX3_combine_18 : decode cX3_combine 18 = .ok (.iload 8, 2) := by decide +kernel
theorem dX3_combine_20 : decode cX3_combine 20 = .ok (.invokevirtual 101, 3) := by decide +kernel
theorem dX3_combine_23 : decode cX3_combine 23 = .ok (.i2l, 1) := by decide +kernel
theorem dX3_combine_24 : decode cX3_combine 24 = .ok (.lmul, 1) := by decide +kernel
theorem dX3_combine_25 : decode cX3_combine 25 = .ok (.aload_n 0, 1) := by decide +kernel
theorem dX3_combine_26 : decode cX3_combine 26 = .ok (.iload 5, 2) := by decide +kernel
theorem dX3_combine_28 : decode cX3_combine 28 = .ok (.iload 8, 2) := by decide +kernel
theorem dX3_combine_30 : decode cX3_combine 30 = .ok (.invokevirtual 101, 3) := by decide +kernel
theorem dX3_combine_33 : decode cX3_combine 33 = .ok (.i2l, 1) := by decide +kernel
theorem dX3_combine_34 : decode cX3_combine 34 = .ok (.ladd, 1) := by decide +kernel
theorem dX3_combine_35 : decode cX3_combine 35 = .ok (.lload 6, 2) := by decide +kernel
theorem dX3_combine_37 : decode cX3_combine 37 = .ok (.ladd, 1) := by decide +kernel
theorem dX3_combine_38 : decode cX3_combine 38 = .ok (.lstore 9, 2) := by decide +kernel
theorem dX3_combine_40 : decode cX3_combine 40 = .ok (.aload_n 0, 1) := by decide +kernel
theorem dX3_combine_41 : decode cX3_combine 41 = .ok (.iload_n 1, 1) := by decide +kernel
theorem dX3_combine_42 : decode cX3_combine 42 = .ok (.iload 8, 2) := by decide +kernel
theorem dX3_combine_44 : decode cX3_combine 44 = .ok (.lload 9, 2) := by decide +kernel
theorem dX3_combine_46 : decode cX3_combine 46 = .ok (.ldc2_w 110, 3) := by decide +kernel
theorem dX3_combine_49 : decode cX3_combine 49 = .ok (.land, 1) := by decide +kernel
theorem dX3_combine_50 : decode cX3_combine 50 = .ok (.l2i, 1) := by decide +kernel
theorem dX3_combine_51 : decode cX3_combine 51 = .ok (.invokevirtual 40, 3) := by decide +kernel
theorem dX3_combine_54 : decode cX3_combine 54 = .ok (.lload 9, 2) := by decide +kernel
theorem dX3_combine_56 : decode cX3_combine 56 = .ok (.bipush 16, 2) := by decide +kernel
theorem dX3_combine_58 : decode cX3_combine 58 = .ok (.lshr, 1) := by decide +kernel
theorem dX3_combine_59 : decode cX3_combine 59 = .ok (.lstore 6, 2) := by decide +kernel
theorem dX3_combine_61 : decode cX3_combine 61 = .ok (.iinc 8 1, 3) := by decide +kernel
theorem dX3_combine_64 : decode cX3_combine 64 = .ok (.goto (-58), 3) := by decide +kernel
theorem dX3_combine_67 : decode cX3_combine 67 = .ok (.return_, 1) := by decide +kernel
set_option maxRecDepth 20000 in
theorem ggX3_negative_X3_get : GoodIn wsX3_negative wsX3_get := goodIn_r _ [7, 8, 13, 14, 15, 16, 17, 18, 19, 20, 21, 22, 23, 24, 25, 26, 27] (by decide +kernel) (by decide +kernel)
set_option maxRecDepth 20000 in
theorem gX3_negative_X3_get : GoodIn wsX3_negative (wsV RX3 101 RX3 yX3_get wsX3_get) := goodIn_app (goodIn_of _ (by decide +kernel)) ggX3_negative_X3_get
set_option maxRecDepth 20000 in
theorem ggX3_negative_X3_put : GoodIn wsX3_negative wsX3_put := goodIn_r _ [12, 8, 13, 14, 15, 16, 17, 18, 19, 20, 21, 22, 23, 24, 25, 26, 27] (by decide +kernel) (by decide +kernel)
set_option maxRecDepth 20000 in
theorem gX3_negative_X3_put : GoodIn wsX3_negative (wsV RX3 40 RX3 yX3_put wsX3_put) := goodIn_app (goodIn_of _ (by decide +kernel)) ggX3_negative_X3_put
theorem dX3_negative_0 : decode cX3_negative 0 = .ok (.iconst 1, 1) := by decide +kernel
theorem dX3_negative_1 : decode cX3_negative 1 = .ok (.istore_n 3, 1) := by decide +kernel
theorem dX3_negative_2 : decode cX3_negative 2 = .ok (.iconst 0, 1) := by decide +kernel
theorem dX3_negative_3 : decode cX3_negative 3 = .ok (.istore 4, 2) := by decide +kernel
theorem dX3_negative_5 : decode cX3_negative 5 = .ok (.iload 4, 2) := by decide +kernel
theorem dX3_negative_7 : decode cX3_negative 7 = .ok (.aload_n 0, 1) := by decide +kernel
theorem dX3_negative_8 : decode cX3_negative 8 = .ok (.getfield 32, 3) := by decide +kernel
theorem dX3_negative_11 : decode cX3_negative 11 = .ok (.if_icmp .ge 41, 3) := by decide +kernel
theorem dX3_negative_14 : decode cX3_negative 14 = .ok (.ldc 109, 2) := by decide +kernel
theorem dX3_negative_16 : decode cX3_negative 16 = .ok (.aload_n 0, 1) := by decide +kernel
theorem dX3_negative_17 : decode cX3_negative 17 = .ok (.iload_n 2, 1) := by decide +kernel
theorem dX3_negative_18 : decode cX3_negative 18 = .ok (.iload 4, 2) := by decide +kernel
theorem dX3_negative_20 : decode cX3_negative 20 = .ok (.invokevirtual 101, 3) := by decide +kernel
theorem dX3_negative_23 : decode cX3_negative 23 = .ok (.isub, 1) := by decide +kernel
theorem dX3_negative_24 : decode cX3_negative 24 = .ok (.iload_n 3, 1) := by decide +kernel
theorem dX3_negative_25 : decode cX3_negative 25 = .ok (.iadd, 1) := by decide +kernel
theorem dX3_negative_26 : decode cX3_negative 26 = .ok (.istore 5, 2) := by decide +kernel
theorem dX3_negative_28 : decode cX3_negative 28 = .ok (.aload_n 0, 1) := by decide +kernel
theorem dX3_negative_29 : decode cX3_negative 29 = .ok (.iload_n 1, 1) := by decide +kernel
theorem dX3_negative_30 : decode cX3_negative 30 = .ok (.iload 4, 2) := by decide +kernel
theorem dX3_negative_32 : decode cX3_negative 32 = .ok (.iload 5, 2) := by decide +kernel
theorem dX3_negative_34 : decode cX3_negative 34 = .ok (.ldc 109, 2) := by decide +kernel
theorem dX3_negative_36 : decode cX3_negative 36 = .ok (.iand, 1) := by decide +kernel
theorem dX3_negative_37 : decode cX3_negative 37 = .ok (.invokevirtual 40, 3) := by decide +kernel
theorem dX3_negative_40 : decode cX3_negative 40 = .ok (.iload 5, 2) := by decide +kernel
theorem dX3_negative_42 : decode cX3_negative 42 = .ok (.bipush 16, 2) := by decide +kernel
theorem dX3_negative_44 : decode cX3_negative 44 = .ok (.ishr, 1) := by decide +kernel
theorem dX3_negative_45 : decode cX3_negative 45 = .ok (.istore_n 3, 1) := by decide +kernel
theorem dX3_negative_46 : decode cX3_negative 46 = .ok (.iinc 4 1, 3) := by decide +kernel
theorem dX3_negative_49 : decode cX3_negative 49 = .ok (.goto (-44), 3) := by decide +kernel
theorem dX3_negative_52 : decode cX3_negative 52 = .ok (.return_, 1) := by decide +kernel
set_option maxRecDepth 20000 in
theorem ggX3_turnBack_X3_hasRoom : GoodIn wsX3_turnBack wsX3_hasRoom := goodIn_r _ [6, 7, 1, 8, 9, 10, 5, 11, 12, 13, 14, 15, 16, 34, 35, 36, 37, 38, 39, 40, 41, 42, 43, 44, 45, 46, 47, 48] (by decide +kernel) (by decide +kernel)
set_option maxRecDepth 20000 in
theorem gX3_turnBack_X3_hasRoom : GoodIn wsX3_turnBack (wsV RX3 112 RX3 yX3_hasRoom wsX3_hasRoom) := goodIn_app (goodIn_of _ (by decide +kernel)) ggX3_turnBack_X3_hasRoom
set_option maxRecDepth 20000 in
theorem ggX3_turnBack_X3_widen : GoodIn wsX3_turnBack wsX3_widen := goodIn_r _ [20, 7, 1, 8, 9, 10, 5, 11, 12, 13, 14, 15, 16, 21, 22, 23, 24, 34, 35, 36, 37, 38, 39, 40, 41, 42, 43, 44, 45, 46, 47, 48] (by decide +kernel) (by decide +kernel)
set_option maxRecDepth 20000 in
theorem gX3_turnBack_X3_widen : GoodIn wsX3_turnBack (wsV RX3 115 RX3 yX3_widen wsX3_widen) := goodIn_app (goodIn_of _ (by decide +kernel)) ggX3_turnBack_X3_widen
set_option maxRecDepth 20000 in
theorem ggX3_turnBack_X3_combine : GoodIn wsX3_turnBack wsX3_combine := goodIn_r _ [28, 1, 29, 12, 13, 14, 5, 15, 16, 21, 22, 23, 24, 34, 35, 36, 37, 38, 39, 40, 41, 42, 43, 44, 45, 46, 47, 48] (by decide +kernel) (by decide +kernel)
set_option maxRecDepth 20000 in
theorem gX3_turnBack_X3_combine : GoodIn wsX3_turnBack (wsV RX3 118 RX3 yX3_combine wsX3_combine) := goodIn_app (goodIn_of _ (by decide +kernel)) ggX3_turnBack_X3_combine
set_option maxRecDepth 20000 in
theorem ggX3_turnBack_X3_negative : GoodIn wsX3_turnBack wsX3_negative := goodIn_r _ [33, 1, 7, 12, 13, 14, 5, 15, 16, 21, 22, 23, 24, 34, 35, 36, 37, 38, 39, 40, 41, 42, 43, 44, 45, 46, 47, 48] (by decide +kernel) (by decide +kernel)
set_option maxRecDepth 20000 in
theorem gX3_turnBack_X3_negative : GoodIn wsX3_turnBack (wsV RX3 122 RX3 yX3_negative wsX3_negative) := goodIn_app (goodIn_of _ (by decide +kernel)) ggX3_turnBack_X3_negative
set_option maxRecDepth 20000 in
theorem ggX3_turnBack_X3_get : GoodIn wsX3_turnBack wsX3_get := goodIn_r _ [15, 16, 34, 35, 36, 37, 38, 39, 40, 41, 42, 43, 44, 45, 46, 47, 48] (by decide +kernel) (by decide +kernel)
set_option maxRecDepth 20000 in
theorem gX3_turnBack_X3_get : GoodIn wsX3_turnBack (wsV RX3 101 RX3 yX3_get wsX3_get) := goodIn_app (goodIn_of _ (by decide +kernel)) ggX3_turnBack_X3_get
set_option maxRecDepth 20000 in
theorem ggX3_turnBack_X3_put : GoodIn wsX3_turnBack wsX3_put := goodIn_r _ [24, 16, 34, 35, 36, 37, 38, 39, 40, 41, 42, 43, 44, 45, 46, 47, 48] (by decide +kernel) (by decide +kernel)
set_option maxRecDepth 20000 in
theorem gX3_turnBack_X3_put : GoodIn wsX3_turnBack (wsV RX3 40 RX3 yX3_put wsX3_put) := goodIn_app (goodIn_of _ (by decide +kernel)) ggX3_turnBack_X3_put
theorem dX3_turnBack_0 : decode cX3_turnBack 0 = .ok (.aload_n 0, 1) := by decide +kernel
theorem dX3_turnBack_1 : decode cX3_turnBack 1 = .ok (.iconst 0, 1) := by decide +kernel
