theorem dX1_hasEnd_12 : decode cX1_hasEnd 12 = .ok (.iload_n 2, 1) := by decide +kernel
theorem dX1_hasEnd_13 : decode cX1_hasEnd 13 = .ok (.ifCond .eq 8, 3) := by decide +kernel
theorem dX1_hasEnd_16 : decode cX1_hasEnd 16 = .ok (.iload_n 2, 1) := by decide +kernel
theorem dX1_hasEnd_17 : decode cX1_hasEnd 17 = .ok (.iconst 1, 1) := by decide +kernel
theorem dX1_hasEnd_18 : decode cX1_hasEnd 18 = .ok (.if_icmp .ne 7, 3) := by decide +kernel
theorem dX1_hasEnd_21 : decode cX1_hasEnd 21 = .ok (.iconst 1, 1) := by decide +kernel
theorem dX1_hasEnd_22 : decode cX1_hasEnd 22 = .ok (.goto 4, 3) := by decide +kernel
theorem dX1_hasEnd_25 : decode cX1_hasEnd 25 = .ok (.iconst 0, 1) := by decide +kernel
theorem dX1_hasEnd_26 : decode cX1_hasEnd 26 = .ok (.ireturn, 1) := by decide +kernel
set_option maxRecDepth 20000 in
theorem ggX1_isBox_X1_isSpan : GoodIn wsX1_isBox wsX1_isSpan := goodIn_r _ [5, 6, 7] (by decide +kernel) (by decide +kernel)
set_option maxRecDepth 20000 in
theorem gX1_isBox_X1_isSpan : GoodIn wsX1_isBox (va_wsS RX1 146 yX1_isSpan wsX1_isSpan) := goodIn_app (goodIn_of _ (by decide +kernel)) ggX1_isBox_X1_isSpan
theorem dX1_isBox_0 : decode cX1_isBox 0 = .ok (.iload_n 1, 1) := by decide +kernel
theorem dX1_isBox_1 : decode cX1_isBox 1 = .ok (.iload_n 2, 1) := by decide +kernel
theorem dX1_isBox_2 : decode cX1_isBox 2 = .ok (.invokestatic 146, 3) := by decide +kernel
theorem dX1_isBox_5 : decode cX1_isBox 5 = .ok (.ifCond .eq 42, 3) := by decide +kernel
theorem dX1_isBox_8 : decode cX1_isBox 8 = .ok (.aload_n 0, 1) := by decide +kernel
theorem dX1_isBox_9 : decode cX1_isBox 9 = .ok (.getfield 9, 3) := by decide +kernel
theorem dX1_isBox_12 : decode cX1_isBox 12 = .ok (.iconst 2, 1) := by decide +kernel
theorem dX1_isBox_13 : decode cX1_isBox 13 = .ok (.if_icmp .lt 12, 3) := by decide +kernel
theorem dX1_isBox_16 : decode cX1_isBox 16 = .ok (.iload_n 3, 1) := by decide +kernel
theorem dX1_isBox_17 : decode cX1_isBox 17 = .ok (.iload 4, 2) := by decide +kernel
theorem dX1_isBox_19 : decode cX1_isBox 19 = .ok (.invokestatic 146, 3) := by decide +kernel
theorem dX1_isBox_22 : decode cX1_isBox 22 = .ok (.ifCond .eq 25, 3) := by decide +kernel
theorem dX1_isBox_25 : decode cX1_isBox 25 = .ok (.aload_n 0, 1) := by decide +kernel
theorem dX1_isBox_26 : decode cX1_isBox 26 = .ok (.getfield 9, 3) := by decide +kernel
theorem dX1_isBox_29 : decode cX1_isBox 29 = .ok (.iconst 3, 1) := by decide +kernel
theorem dX1_isBox_30 : decode cX1_isBox 30 = .ok (.if_icmp .lt 13, 3) := by decide +kernel
theorem dX1_isBox_33 : decode cX1_isBox 33 = .ok (.iload 5, 2) := by decide +kernel
theorem dX1_isBox_35 : decode cX1_isBox 35 = .ok (.iload 6, 2) := by decide +kernel
theorem dX1_isBox_37 : decode cX1_isBox 37 = .ok (.invokestatic 146, 3) := by decide +kernel
theorem dX1_isBox_40 : decode cX1_isBox 40 = .ok (.ifCond .eq 7, 3) := by decide +kernel
theorem dX1_isBox_43 : decode cX1_isBox 43 = .ok (.iconst 1, 1) := by decide +kernel
theorem dX1_isBox_44 : decode cX1_isBox 44 = .ok (.goto 4, 3) := by decide +kernel
theorem dX1_isBox_47 : decode cX1_isBox 47 = .ok (.iconst 0, 1) := by decide +kernel
theorem dX1_isBox_48 : decode cX1_isBox 48 = .ok (.ireturn, 1) := by decide +kernel
set_option maxRecDepth 20000 in
theorem ggX1_isPlace_X1_isBox : GoodIn wsX1_isPlace wsX1_isBox := goodIn_r _ [5, 6, 7, 8, 4, 9, 10, 11, 12, 13, 14, 15, 16, 17, 18, 19, 20, 21, 22, 23, 24, 25, 26, 27, 28, 29] (by decide +kernel) (by decide +kernel)
set_option maxRecDepth 20000 in
theorem gX1_isPlace_X1_isBox : GoodIn wsX1_isPlace (wsV RX1 75 RX1 yX1_isBox wsX1_isBox) := goodIn_app (goodIn_of _ (by decide +kernel)) ggX1_isPlace_X1_isBox
theorem dX1_isPlace_0 : decode cX1_isPlace 0 = .ok (.aload_n 0, 1) := by decide +kernel
theorem dX1_isPlace_1 : decode cX1_isPlace 1 = .ok (.iload_n 1, 1) := by decide +kernel
theorem dX1_isPlace_2 : decode cX1_isPlace 2 = .ok (.iload_n 1, 1) := by decide +kernel
theorem dX1_isPlace_3 : decode cX1_isPlace 3 = .ok (.iload_n 2, 1) := by decide +kernel
theorem dX1_isPlace_4 : decode cX1_isPlace 4 = .ok (.iload_n 2, 1) := by decide +kernel
theorem dX1_isPlace_5 : decode cX1_isPlace 5 = .ok (.iload_n 3, 1) := by decide +kernel
theorem dX1_isPlace_6 : decode cX1_isPlace 6 = .ok (.iload_n 3, 1) := by decide +kernel
theorem dX1_isPlace_7 : decode cX1_isPlace 7 = .ok (.invokevirtual 75, 3) := by decide +kernel
theorem dX1_isPlace_10 : decode cX1_isPlace 10 = .ok (.ireturn, 1) := by decide +kernel
theorem dX1_isSpan_0 : decode cX1_isSpan 0 = .ok (.iload_n 0, 1) := by decide +kernel
theorem dX1_isSpan_1 : decode cX1_isSpan 1 = .ok (.ldc 149, 2) := by decide +kernel
theorem dX1_isSpan_3 : decode cX1_isSpan 3 = .ok (.if_icmp .lt 18, 3) := by decide +kernel
theorem dX1_isSpan_6 : decode cX1_isSpan 6 = .ok (.iload_n 1, 1) := by decide +kernel
theorem dX1_isSpan_7 : decode cX1_isSpan 7 = .ok (.ldc 150, 2) := by decide +kernel
theorem dX1_isSpan_9 : decode cX1_isSpan 9 = .ok (.if_icmp .gt 12, 3) := by decide +kernel
theorem dX1_isSpan_12 : decode cX1_isSpan 12 = .ok (.iload_n 0, 1) := by decide +kernel
theorem dX1_isSpan_13 : decode cX1_isSpan 13 = .ok (.iload_n 1, 1) := by decide +kernel
theorem dX1_isSpan_14 : decode cX1_isSpan 14 = .ok (.if_icmp .gt 7, 3) := by decide +kernel
theorem dX1_isSpan_17 : decode cX1_isSpan 17 = .ok (.iconst 1, 1) := by decide +kernel
theorem dX1_isSpan_18 : decode cX1_isSpan 18 = .ok (.goto 4, 3) := by decide +kernel
theorem dX1_isSpan_21 : decode cX1_isSpan 21 = .ok (.iconst 0, 1) := by decide +kernel
theorem dX1_isSpan_22 : decode cX1_isSpan 22 = .ok (.ireturn, 1) := by decide +kernel
theorem dX1_isParted_0 : decode cX1_isParted 0 = .ok (.aload_n 0, 1) := by decide +kernel
theorem dX1_isParted_1 : decode cX1_isParted 1 = .ok (.getfield 38, 3) := by decide +kernel
theorem dX1_isParted_4 : decode cX1_isParted 4 = .ok (.iload_n 1, 1) := by decide +kernel
theorem dX1_isParted_5 : decode cX1_isParted 5 = .ok (.iaload, 1) := by decide +kernel
theorem dX1_isParted_6 : decode cX1_isParted 6 = .ok (.ifCond .eq 7, 3) := by decide +kernel
theorem dX1_isParted_9 : decode cX1_isParted 9 = .ok (.iconst 1, 1) := by decide +kernel
theorem dX1_isParted_10 : decode cX1_isParted 10 = .ok (.goto 4, 3) := by decide +kernel
theorem dX1_isParted_13 : decode cX1_isParted 13 = .ok (.iconst 0, 1) := by decide +kernel
theorem dX1_isParted_14 : decode cX1_isParted 14 = .ok (.ireturn, 1) := by decide +kernel
set_option maxRecDepth 20000 in
theorem ggX1_makeBlock_X1_setBounds : GoodIn wsX1_makeBlock wsX1_setBounds := goodIn_r _ [10, 11, 12, 13, 2, 3, 14, 15, 16, 17, 18, 19, 20, 21, 22, 23, 24, 25, 26, 27, 28, 29, 30, 31, 32, 33, 34, 35, 36, 62, 63, 64, 65, 66, 67, 68, 69, 70, 71, 72, 73, 74, 75, 76, 77, 78, 79, 80] (by decide +kernel) (by decide +kernel)
set_option maxRecDepth 20000 in
theorem gX1_makeBlock_X1_setBounds : GoodIn wsX1_makeBlock (wsV RX1 151 RX1 yX1_setBounds wsX1_setBounds) := goodIn_app (goodIn_of _ (by decide +kernel)) ggX1_makeBlock_X1_setBounds
set_option maxRecDepth 20000 in
theorem ggX1_makeBlock_X1_widestAxis : GoodIn wsX1_makeBlock wsX1_widestAxis := goodIn_r _ [40, 41, 42, 43, 44, 9, 45, 12, 13, 46, 31, 32, 33, 47, 35, 36, 48, 15, 49, 50, 18, 19, 20, 21, 22, 62, 63, 64, 65, 66, 67, 68, 69, 70, 71, 72, 73, 74, 75, 76, 77, 78, 79, 80] (by decide +kernel) (by decide +kernel)
set_option maxRecDepth 20000 in
theorem gX1_makeBlock_X1_widestAxis : GoodIn wsX1_makeBlock (wsV RX1 154 RX1 yX1_widestAxis wsX1_widestAxis) := goodIn_app (goodIn_of _ (by decide +kernel)) ggX1_makeBlock_X1_widestAxis
set_option maxRecDepth 20000 in
theorem ggX1_makeBlock_X1_sortRun : GoodIn wsX1_makeBlock wsX1_sortRun := goodIn_r _ [54, 13, 55, 56, 57, 9, 58, 12, 48, 15, 49, 50, 18, 19, 20, 21, 22, 62, 63, 64, 65, 66, 67, 68, 69, 70, 71, 72, 73, 74, 75, 76, 77, 78, 79, 80] (by decide +kernel) (by decide +kernel)
set_option maxRecDepth 20000 in
theorem gX1_makeBlock_X1_sortRun : GoodIn wsX1_makeBlock (wsV RX1 158 RX1 yX1_sortRun wsX1_sortRun) := goodIn_app (goodIn_of _ (by decide +kernel)) ggX1_makeBlock_X1_sortRun
set_option maxRecDepth 20000 in
theorem ggX1_makeBlock_X1_makeBlock : GoodIn wsX1_makeBlock wsX1_makeBlock := goodIn_r _ [0, 1, 2, 3, 4, 5, 6, 7, 8, 9, 10, 11, 12, 13, 14, 15, 16, 17, 18, 19, 20, 21, 22, 23, 24, 25, 26, 27, 28, 29, 30, 31, 32, 33, 34, 35, 36, 37, 38, 39, 40, 41, 42, 43, 44, 45, 46, 47, 48, 49, 50, 51, 52, 53, 54, 55, 56, 57, 58, 59, 60, 61, 62, 63, 64, 65, 66, 67, 68, 69, 70, 71, 72, 73, 74, 75, 76, 77, 78, 79, 80] (by decide +kernel) (by decide +kernel)
set_option maxRecDepth 20000 in
theorem gX1_makeBlock_X1_makeBlock : GoodIn wsX1_makeBlock (wsV RX1 97 RX1 yX1_makeBlock wsX1_makeBlock) := goodIn_app (goodIn_of _ (by decide +kernel)) ggX1_makeBlock_X1_makeBlock
theorem dX1_makeBlock_0 : decode cX1_makeBlock 0 = .ok (.iload_n 1, 1) := by decide +kernel
theorem dX1_makeBlock_1 : decode cX1_makeBlock 1 = .ok (.iload_n 2, 1) := by decide +kernel
theorem dX1_makeBlock_2 : decode cX1_makeBlock 2 = .ok (.if_icmp .ge 17, 3) := by decide +kernel
theorem dX1_makeBlock_5 : decode cX1_makeBlock 5 = .ok (.iload_n 3, 1) := by decide +kernel
theorem dX1_makeBlock_6 : decode cX1_makeBlock 6 = .ok (.iconst 4, 1) := by decide +kernel
theorem dX1_makeBlock_7 : decode cX1_makeBlock 7 = .ok (.if_icmp .gt 12, 3) := by decide +kernel
theorem dX1_makeBlock_10 : decode cX1_makeBlock 10 = .ok (.aload_n 0, 1) := by decide +kernel
theorem dX1_makeBlock_11 : decode cX1_makeBlock 11 = .ok (.getfield 66, 3) := by decide +kernel
theorem dX1_makeBlock_14 : decode cX1_makeBlock 14 = .ok (.bipush 31, 2) := by decide +kernel
theorem dX1_makeBlock_16 : decode cX1_makeBlock 16 = .ok (.if_icmp .lt 4, 3) := by decide +kernel
theorem dX1_makeBlock_19 : decode cX1_makeBlock 19 = .ok (.return_, 1) := by decide +kernel
theorem dX1_makeBlock_20 : decode cX1_makeBlock 20 = .ok (.aload_n 0, 1) := by decide +kernel
theorem dX1_makeBlock_21 : decode cX1_makeBlock 21 = .ok (.getfield 66, 3) := by decide +kernel
theorem dX1_makeBlock_24 : decode cX1_makeBlock 24 = .ok (.istore 4, 2) := by decide +kernel
theorem dX1_makeBlock_26 : decode cX1_makeBlock 26 = .ok (.aload_n 0, 1) := by decide +kernel
theorem dX1_makeBlock_27 : decode cX1_makeBlock 27 = .ok (.dup, 1) := by decide +kernel
theorem dX1_makeBlock_28 : decode cX1_makeBlock 28 = .ok (.getfield 66, 3) := by decide +kernel
theorem dX1_makeBlock_31 : decode cX1_makeBlock 31 = .ok (.iconst 1, 1) := by decide +kernel
theorem dX1_makeBlock_32 : decode cX1_makeBlock 32 = .ok (.iadd, 1) := by decide +kernel
theorem dX1_makeBlock_33 : decode cX1_makeBlock 33 = .ok (.putfield 66, 3) := by decide +kernel
theorem dX1_makeBlock_36 : decode cX1_makeBlock 36 = .ok (.aload_n 0, 1) := by decide +kernel
theorem dX1_makeBlock_37 : decode cX1_makeBlock 37 = .ok (.getfield 32, 3) := by decide +kernel
theorem dX1_makeBlock_40 : decode cX1_makeBlock 40 = .ok (.iload 4, 2) := by decide +kernel
theorem dX1_makeBlock_42 : decode cX1_makeBlock 42 = .ok (.iload_n 1, 1) := by decide +kernel
theorem dX1_makeBlock_43 : decode cX1_makeBlock 43 = .ok (.iastore, 1) := by decide +kernel
theorem dX1_makeBlock_44 : decode cX1_makeBlock 44 = .ok (.aload_n 0, 1) := by decide +kernel
theorem dX1_makeBlock_45 : decode cX1_makeBlock 45 = .ok (.getfield 35, 3) := by decide +kernel
theorem dX1_makeBlock_48 : decode cX1_makeBlock 48 = .ok (.iload 4, 2) := by decide +kernel
theorem dX1_makeBlock_50 : decode cX1_makeBlock 50 = .ok (.iload_n 2, 1) := by decide +kernel
theorem dX1_makeBlock_51 : decode cX1_makeBlock 51 = .ok (.iastore, 1) := by decide +kernel
theorem dX1_makeBlock_52 : decode cX1_makeBlock 52 = .ok (.aload_n 0, 1) := by decide +kernel
theorem dX1_makeBlock_53 : decode cX1_makeBlock 53 = .ok (.getfield 38, 3) := by decide +kernel
theorem dX1_makeBlock_56 : decode cX1_makeBlock 56 = .ok (.iload 4, 2) := by decide +kernel
theorem dX1_makeBlock_58 : decode cX1_makeBlock 58 = .ok (.iconst 0, 1) := by decide +kernel
theorem dX1_makeBlock_59 : decode cX1_makeBlock 59 = .ok (.iastore, 1) := by decide +kernel
theorem dX1_makeBlock_60 : decode cX1_makeBlock 60 = .ok (.aload_n 0, 1) := by decide +kernel
theorem dX1_makeBlock_61 : decode cX1_makeBlock 61 = .ok (.getfield 41, 3) := by decide +kernel
theorem dX1_makeBlock_64 : decode cX1_makeBlock 64 = .ok (.iload 4, 2) := by decide +kernel
theorem dX1_makeBlock_66 : decode cX1_makeBlock 66 = .ok (.iload_n 3, 1) := by decide +kernel
theorem dX1_makeBlock_67 : decode cX1_makeBlock 67 = .ok (.iastore, 1) := by decide +kernel
theorem dX1_makeBlock_68 : decode cX1_makeBlock 68 = .ok (.aload_n 0, 1) := by decide +kernel
theorem dX1_makeBlock_69 : decode cX1_makeBlock 69 = .ok (.iload 4, 2) := by decide +kernel
theorem dX1_makeBlock_71 : decode cX1_makeBlock 71 = .ok (.invokevirtual 151, 3) := by decide +kernel
theorem dX1_makeBlock_74 : decode cX1_makeBlock 74 = .ok (.iload_n 2, 1) := by decide +kernel
theorem dX1_makeBlock_75 : decode cX1_makeBlock 75 = .ok (.iload_n 1, 1) := by decide +kernel
theorem dX1_makeBlock_76 : decode cX1_makeBlock 76 = .ok (.isub, 1) := by decide +kernel
theorem dX1_makeBlock_77 : decode cX1_makeBlock 77 = .ok (.iconst 4, 1) := by decide +kernel
theorem dX1_makeBlock_78 : decode cX1_makeBlock 78 = .ok (.if_icmp .gt 4, 3) := by decide +kernel
theorem dX1_makeBlock_81 : decode cX1_makeBlock 81 = .ok (.return_, 1) := by decide +kernel
theorem dX1_makeBlock_82 : decode cX1_makeBlock 82 = .ok (.aload_n 0, 1) := by decide +kernel
theorem dX1_makeBlock_83 : decode cX1_makeBlock 83 = .ok (.iload_n 1, 1) := by decide +kernel
theorem dX1_makeBlock_84 : decode cX1_makeBlock 84 = .ok (.iload_n 2, 1) := by decide +kernel
theorem dX1_makeBlock_85 : decode cX1_makeBlock 85 = .ok (.aload_n 0, 1) := by decide +kernel
theorem dX1_makeBlock_86 : decode cX1_makeBlock 86 = .ok (.iload_n 1, 1) := by decide +kernel
theorem dX1_makeBlock_87 : decode cX1_makeBlock 87 = .ok (.iload_n 2, 1) := by decide +kernel
theorem dX1_makeBlock_88 : decode cX1_makeBlock 88 = .ok (.invokevirtual 154, 3) := by decide +kernel
theorem dX1_makeBlock_91 : decode cX1_makeBlock 91 = .ok (.invokevirtual 158, 3) := by decide +kernel
theorem dX1_makeBlock_94 : decode cX1_makeBlock 94 = .ok (.iload_n 1, 1) := by decide +kernel
theorem dX1_makeBlock_95 : decode cX1_makeBlock 95 = .ok (.iload_n 2, 1) := by decide +kernel
theorem dX1_makeBlock_96 : decode cX1_makeBlock 96 = .ok (.iload_n 1, 1) := by decide +kernel
theorem dX1_makeBlock_97 : decode cX1_makeBlock 97 = .ok (.isub, 1) := by decide +kernel
theorem dX1_makeBlock_98 : decode cX1_makeBlock 98 = .ok (.iconst 1, 1) := by decide +kernel
theorem dX1_makeBlock_99 : decode cX1_makeBlock 99 = .ok (.iadd, 1) := by decide +kernel
theorem dX1_makeBlock_100 : decode cX1_makeBlock 100 = .ok (.iconst 2, 1) := by decide +kernel
theorem dX1_makeBlock_101 : decode cX1_makeBlock 101 = .ok (.idiv, 1) := by decide +kernel
theorem dX1_makeBlock_102 : decode cX1_makeBlock 102 = .ok (.iadd, 1) := by decide +kernel
theorem dX1_makeBlock_103 : decode cX1_makeBlock 103 = .ok (.istore 5, 2) := by decide +kernel
theorem dX1_makeBlock_105 : decode cX1_makeBlock 105 = .ok (.aload_n 0, 1) := by decide +kernel
theorem dX1_makeBlock_106 : decode cX1_makeBlock 106 = .ok (.iload_n 1, 1) := by decide +kernel
theorem dX1_makeBlock_107 : decode cX1_makeBlock 107 = .ok (.iload 5, 2) := by decide +kernel
theorem dX1_makeBlock_109 : decode cX1_makeBlock 109 = .ok (.iload_n 3, 1) := by decide +kernel
theorem dX1_makeBlock_110 : decode cX1_makeBlock 110 = .ok (.iconst 1, 1) := by decide +kernel
theorem dX1_makeBlock_111 : decode cX1_makeBlock 111 = .ok (.iadd, 1) := by decide +kernel
theorem dX1_makeBlock_112 : decode cX1_makeBlock 112 = .ok (.invokevirtual 97, 3) := by decide +kernel
theorem dX1_makeBlock_115 : decode cX1_makeBlock 115 = .ok (.aload_n 0, 1) := by decide +kernel
theorem dX1_makeBlock_116 : decode cX1_makeBlock 116 = .ok (.getfield 38, 3) := by decide +kernel
theorem dX1_makeBlock_119 : decode cX1_makeBlock 119 = .ok (.iload 4, 2) := by decide +kernel
theorem dX1_makeBlock_121 : decode cX1_makeBlock 121 = .ok (.aload_n 0, 1) := by decide +kernel
theorem dX1_makeBlock_122 : decode cX1_makeBlock 122 = .ok (.getfield 66, 3) := by decide +kernel
theorem dX1_makeBlock_125 : decode cX1_makeBlock 125 = .ok (.iastore, 1) := by decide +kernel
theorem dX1_makeBlock_126 : decode cX1_makeBlock 126 = .ok (.aload_n 0, 1) := by decide +kernel
theorem dX1_makeBlock_127 : decode cX1_makeBlock 127 = .ok (.iload 5, 2) := by decide +kernel
theorem dX1_makeBlock_129 : decode cX1_makeBlock 129 = .ok (.iload_n 2, 1) := by decide +kernel
theorem dX1_makeBlock_130 : decode cX1_makeBlock 130 = .ok (.iload_n 3, 1) := by decide +kernel
theorem dX1_makeBlock_131 : decode cX1_makeBlock 131 = .ok (.iconst 1, 1) := by decide +kernel
theorem dX1_makeBlock_132 : decode cX1_makeBlock 132 = .ok (.iadd, 1) := by decide +kernel
theorem dX1_makeBlock_133 : decode cX1_makeBlock 133 = .ok (.invokevirtual 97, 3) := by decide +kernel
theorem dX1_makeBlock_136 : decode cX1_makeBlock 136 = .ok (.return_, 1) := by decide +kernel
set_option maxRecDepth 20000 in
theorem ggX1_setBounds_X0_copyFrom : GoodIn wsX1_setBounds wsX0_copyFrom := goodIn_r _ [9, 10, 11, 12, 7, 13, 14, 15, 16, 17, 18, 47] (by decide +kernel) (by decide +kernel)
set_option maxRecDepth 20000 in
theorem gX1_setBounds_X0_copyFrom_n161 : GoodIn wsX1_setBounds (wsX0_copyFrom) := ggX1_setBounds_X0_copyFrom
set_option maxRecDepth 20000 in
theorem ggX1_setBounds_X0_widen : GoodIn wsX1_setBounds wsX0_widen := goodIn_r _ [21, 22, 23, 24, 25, 26, 27, 28, 10, 11, 12, 7, 13, 14, 15, 16, 17, 18, 47] (by decide +kernel) (by decide +kernel)
set_option maxRecDepth 20000 in
theorem gX1_setBounds_X0_widen_n165 : GoodIn wsX1_setBounds (wsX0_widen) := ggX1_setBounds_X0_widen
theorem dX1_setBounds_0 : decode cX1_setBounds 0 = .ok (.aload_n 0, 1) := by decide +kernel
theorem dX1_setBounds_1 : decode cX1_setBounds 1 = .ok (.getfield 44, 3) := by decide +kernel
theorem dX1_setBounds_4 : decode cX1_setBounds 4 = .ok (.iload_n 1, 1) := by decide +kernel
theorem dX1_setBounds_5 : decode cX1_setBounds 5 = .ok (.aload_n 0, 1) := by decide +kernel
theorem dX1_setBounds_6 : decode cX1_setBounds 6 = .ok (.getfield 24, 3) := by decide +kernel
theorem dX1_setBounds_9 : decode cX1_setBounds 9 = .ok (.aload_n 0, 1) := by decide +kernel
theorem dX1_setBounds_10 : decode cX1_setBounds 10 = .ok (.getfield 28, 3) := by decide +kernel
theorem dX1_setBounds_13 : decode cX1_setBounds 13 = .ok (.aload_n 0, 1) := by decide +kernel
theorem dX1_setBounds_14 : decode cX1_setBounds 14 = .ok (.getfield 32, 3) := by decide +kernel
theorem dX1_setBounds_17 : decode cX1_setBounds 17 = .ok (.iload_n 1, 1) := by decide +kernel
theorem dX1_setBounds_18 : decode cX1_setBounds 18 = .ok (.iaload, 1) := by decide +kernel
theorem dX1_setBounds_19 : decode cX1_setBounds 19 = .ok (.iaload, 1) := by decide +kernel
theorem dX1_setBounds_20 : decode cX1_setBounds 20 = .ok (.invokevirtual 161, 3) := by decide +kernel
theorem dX1_setBounds_23 : decode cX1_setBounds 23 = .ok (.aload_n 0, 1) := by decide +kernel
theorem dX1_setBounds_24 : decode cX1_setBounds 24 = .ok (.getfield 32, 3) := by decide +kernel
theorem dX1_setBounds_27 : decode cX1_setBounds 27 = .ok (.iload_n 1, 1) := by decide +kernel
theorem dX1_setBounds_28 : decode cX1_setBounds 28 = .ok (.iaload, 1) := by decide +kernel
theorem dX1_setBounds_29 : decode cX1_setBounds 29 = .ok (.iconst 1, 1) := by decide +kernel
theorem dX1_setBounds_30 : decode cX1_setBounds 30 = .ok (.iadd, 1) := by decide +kernel
theorem dX1_setBounds_31 : decode cX1_setBounds 31 = .ok (.istore_n 2, 1) := by decide +kernel
theorem dX1_setBounds_32 : decode cX1_setBounds 32 = .ok (.iload_n 2, 1) := by decide +kernel
theorem dX1_setBounds_33 : decode cX1_setBounds 33 = .ok (.aload_n 0, 1) := by decide +kernel
theorem dX1_setBounds_34 : decode cX1_setBounds 34 = .ok (.getfield 35, 3) := by decide +kernel
theorem dX1_setBounds_37 : decode cX1_setBounds 37 = .ok (.iload_n 1, 1) := by decide +kernel
theorem dX1_setBounds_38 : decode cX1_setBounds 38 = .ok (.iaload, 1) := by decide +kernel
theorem dX1_setBounds_39 : decode cX1_setBounds 39 = .ok (.if_icmp .ge 27, 3) := by decide +kernel
theorem dX1_setBounds_42 : decode cX1_setBounds 42 = .ok (.aload_n 0, 1) := by decide +kernel
theorem dX1_setBounds_43 : decode cX1_setBounds 43 = .ok (.getfield 44, 3) := by decide +kernel
theorem dX1_setBounds_46 : decode cX1_setBounds 46 = .ok (.iload_n 1, 1) := by decide +kernel
theorem dX1_setBounds_47 : decode cX1_setBounds 47 = .ok (.aload_n 0, 1) := by decide +kernel
theorem dX1_setBounds_48 : decode cX1_setBounds 48 = .ok (.getfield 24, 3) := by decide +kernel
theorem dX1_setBounds_51 : decode cX1_setBounds 51 = .ok (.aload_n 0, 1) := by decide +kernel
theorem dX1_setBounds_52 : decode cX1_setBounds 52 = .ok (.getfield 28, 3) := by decide +kernel
theorem dX1_setBounds_55 : decode cX1_setBounds 55 = .ok (.iload_n 2, 1) := by decide +kernel
theorem dX1_setBounds_56 : decode cX1_setBounds 56 = .ok (.iaload, 1) := by decide +kernel
theorem dX1_setBounds_57 : decode cX1_setBounds 57 = .ok (.invokevirtual 165, 3) := by decide +kernel
theorem dX1_setBounds_60 : decode cX1_setBounds 60 = .ok (.iinc 2 1, 3) := by decide +kernel
theorem dX1_setBounds_63 : decode cX1_setBounds 63 = .ok (.goto (-31), 3) := by decide +kernel
theorem dX1_setBounds_66 : decode cX1_setBounds 66 = .ok (.return_, 1) := by decide +kernel
set_option maxRecDepth 20000 in
theorem ggX1_widestAxis_X1_spread : GoodIn wsX1_widestAxis wsX1_spread := goodIn_r _ [6, 7, 8, 9, 10, 11, 12, 13, 14, 15, 16, 17, 18, 19, 20, 21, 22, 23, 24, 25, 26, 27, 28, 29, 30, 31, 32, 33, 34, 35, 36, 37, 38, 39, 40, 41, 42, 43] (by decide +kernel) (by decide +kernel)
set_option maxRecDepth 20000 in
theorem gX1_widestAxis_X1_spread : GoodIn wsX1_widestAxis (wsV RX1 168 RX1 yX1_spread wsX1_spread) := goodIn_app (goodIn_of _ (by decide +kernel)) ggX1_widestAxis_X1_spread
theorem dX1_widestAxis_0 : decode cX1_widestAxis 0 = .ok (.iconst 0, 1) := by decide +kernel
theorem dX1_widestAxis_1 : decode cX1_widestAxis 1 = .ok (.istore_n 3, 1) := by decide +kernel
theorem dX1_widestAxis_2 : decode cX1_widestAxis 2 = .ok (.iconst 1, 1) := by decide +kernel
theorem dX1_widestAxis_3 : decode cX1_widestAxis 3 = .ok (.istore 4, 2) := by decide +kernel
theorem dX1_widestAxis_5 : decode cX1_widestAxis 5 = .ok (.iload 4, 2) := by decide +kernel
theorem dX1_widestAxis_7 : decode cX1_widestAxis 7 = .ok (.aload_n 0, 1) := by decide +kernel
theorem dX1_widestAxis_8 : decode cX1_widestAxis 8 = .ok (.getfield 9, 3) := by decide +kernel
theorem dX1_widestAxis_11 : decode cX1_widestAxis 11 = .ok (.if_icmp .ge 30, 3) := by decide +kernel
theorem dX1_widestAxis_14 : decode cX1_widestAxis 14 = .ok (.aload_n 0, 1) := by decide +kernel
theorem dX1_widestAxis_15 : decode cX1_widestAxis 15 = .ok (.iload_n 1, 1) := by decide +kernel
theorem dX1_widestAxis_16 : decode cX1_widestAxis 16 = .ok (.iload_n 2, 1) := by decide +kernel
theorem dX1_widestAxis_17 : decode cX1_widestAxis 17 = .ok (.iload 4, 2) := by decide +kernel
theorem dX1_widestAxis_19 : decode cX1_widestAxis 19 = .ok (.invokevirtual 168, 3) := by decide +kernel
theorem dX1_widestAxis_22 : decode cX1_widestAxis 22 = .ok (.aload_n 0, 1) := by decide +kernel
theorem dX1_widestAxis_23 : decode cX1_widestAxis 23 = .ok (.iload_n 1, 1) := by decide +kernel
theorem dX1_widestAxis_24 : decode cX1_widestAxis 24 = .ok (.iload_n 2, 1) := by decide +kernel
theorem dX1_widestAxis_25 : decode cX1_widestAxis 25 = .ok (.iload_n 3, 1) := by decide +kernel
theorem dX1_widestAxis_26 : decode cX1_widestAxis 26 = .ok (.invokevirtual 168, 3) := by decide +kernel
theorem dX1_widestAxis_29 : decode cX1_widestAxis 29 = .ok (.if_icmp .le 6, 3) := by decide +kernel
theorem dX1_widestAxis_32 : decode cX1_widestAxis 32 = .ok (.iload 4, 2) := by decide +kernel
theorem dX1_widestAxis_34 : decode cX1_widestAxis 34 = .ok (.istore_n 3, 1) := by decide +kernel
theorem dX1_widestAxis_35 : decode cX1_widestAxis 35 = .ok (.iinc 4 1, 3) := by decide +kernel
theorem dX1_widestAxis_38 : decode cX1_widestAxis 38 = .ok (.goto (-33), 3) := by decide +kernel
theorem dX1_widestAxis_41 : decode cX1_widestAxis 41 = .ok (.iload_n 3, 1) := by decide +kernel
theorem dX1_widestAxis_42 : decode cX1_widestAxis 42 = .ok (.ireturn, 1) := by decide +kernel
set_option maxRecDepth 20000 in
theorem ggX1_spread_X0_sum : GoodIn wsX1_spread wsX0_sum := goodIn_r _ [13, 14, 15, 16, 11, 17, 18, 37] (by decide +kernel) (by decide +kernel)
set_option maxRecDepth 20000 in
theorem gX1_spread_X0_sum_n171 : GoodIn wsX1_spread (wsX0_sum) := ggX1_spread_X0_sum
theorem dX1_spread_0 : decode cX1_spread 0 = .ok (.aload_n 0, 1) := by decide +kernel
theorem dX1_spread_1 : decode cX1_spread 1 = .ok (.getfield 24, 3) := by decide +kernel
theorem dX1_spread_4 : decode cX1_spread 4 = .ok (.aload_n 0, 1) := by decide +kernel
theorem dX1_spread_5 : decode cX1_spread 5 = .ok (.getfield 28, 3) := by decide +kernel
theorem dX1_spread_8 : decode cX1_spread 8 = .ok (.iload_n 1, 1) := by decide +kernel
theorem dX1_spread_9 : decode cX1_spread 9 = .ok (.iaload, 1) := by decide +kernel
theorem dX1_spread_10 : decode cX1_spread 10 = .ok (.iload_n 3, 1) := by decide +kernel
theorem dX1_spread_11 : decode cX1_spread 11 = .ok (.invokevirtual 171, 3) := by decide +kernel
theorem dX1_spread_14 : decode cX1_spread 14 = .ok (.istore 4, 2) := by decide +kernel
theorem dX1_spread_16 : decode cX1_spread 16 = .ok (.iload 4, 2) := by decide +kernel
theorem dX1_spread_18 : decode cX1_spread 18 = .ok (.istore 5, 2) := by decide +kernel
theorem dX1_spread_20 : decode cX1_spread 20 = .ok (.iload_n 1, 1) := by decide +kernel
theorem dX1_spread_21 : decode cX1_spread 21 = .ok (.iconst 1, 1) := by decide +kernel
theorem dX1_spread_22 : decode cX1_spread 22 = .ok (.iadd, 1) := by decide +kernel
theorem dX1_spread_23 : decode cX1_spread 23 = .ok (.istore 6, 2) := by decide +kernel
theorem dX1_spread_25 : decode cX1_spread 25 = .ok (.iload 6, 2) := by decide +kernel
theorem dX1_spread_27 : decode cX1_spread 27 = .ok (.iload_n 2, 1) := by decide +kernel
theorem dX1_spread_28 : decode cX1_spread 28 = .ok (.if_icmp .ge 44, 3) := by decide +kernel
theorem dX1_spread_31 : decode cX1_spread 31 = .ok (.aload_n 0, 1) := by decide +kernel
theorem dX1_spread_32 : decode cX1_spread 32 = .ok (.getfield 24, 3) := by decide +kernel
theorem dX1_spread_35 : decode cX1_spread 35 = .ok (.aload_n 0, 1) := by decide +kernel
theorem dX1_spread_36 : decode cX1_spread 36 = .ok (.getfield 28, 3) := by decide +kernel
theorem dX1_spread_39 : decode cX1_spread 39 = .ok (.iload 6, 2) := by decide +kernel
theorem dX1_spread_41 : decode cX1_spread 41 = .ok (.iaload, 1) := by decide +kernel
theorem dX1_spread_42 : decode cX1_spread 42 = .ok (.iload_n 3, 1) := by decide +kernel
theorem dX1_spread_43 : decode cX1_spread 43 = .ok (.invokevirtual 171, 3) := by decide +kernel
theorem dX1_spread_46 : decode cX1_spread 46 = .ok (.istore 7, 2) := by decide +kernel
theorem dX1_spread_48 : decode cX1_spread 48 = .ok (.iload 4, 2) := by decide +kernel
theorem dX1_spread_50 : decode cX1_spread 50 = .ok (.iload 7, 2) := by decide +kernel
theorem dX1_spread_52 : decode cX1_spread 52 = .ok (.invokestatic 174, 3) := by decide +kernel
theorem dX1_spread_55 : decode cX1_spread 55 = .ok (.istore 4, 2) := by decide +kernel
theorem dX1_spread_57 : decode cX1_spread 57 = .ok (.iload 5, 2) := by decide +kernel
theorem dX1_spread_59 : decode cX1_spread 59 = .ok (.iload 7, 2) := by decide +kernel
theorem dX1_spread_61 : decode cX1_spread 61 = .ok (.invokestatic 177, 3) := by decide +kernel
theorem dX1_spread_64 : decode cX1_spread 64 = .ok (.istore 5, 2) := by decide +kernel
theorem dX1_spread_66 : decode cX1_spread 66 = .ok (.iinc 6 1, 3) := by decide +kernel
theorem dX1_spread_69 : decode cX1_spread 69 = .ok (.goto (-44), 3) := by decide +kernel
theorem dX1_spread_72 : decode cX1_spread 72 = .ok (.iload 5, 2) := by decide +kernel
theorem dX1_spread_74 : decode cX1_spread 74 = .ok (.iload 4, 2) := by decide +kernel
theorem dX1_spread_76 : decode cX1_spread 76 = .ok (.isub, 1) := by decide +kernel
theorem dX1_spread_77 : decode cX1_spread 77 = .ok (.ireturn, 1) := by decide +kernel
set_option maxRecDepth 20000 in
theorem ggX1_sortRun_X1_comesBefore : GoodIn wsX1_sortRun wsX1_comesBefore := goodIn_r _ [6, 7, 8, 9, 10, 11, 12, 13, 14, 15, 16, 17, 18, 19, 20, 21, 22, 23, 24, 25, 26, 27, 28, 29, 30, 31, 32, 33, 34, 35] (by decide +kernel) (by decide +kernel)
set_option maxRecDepth 20000 in
theorem gX1_sortRun_X1_comesBefore : GoodIn wsX1_sortRun (wsV RX1 180 RX1 yX1_comesBefore wsX1_comesBefore) := goodIn_app (goodIn_of _ (by decide +kernel)) ggX1_sortRun_X1_comesBefore
theorem dX1_sortRun_0 : decode cX1_sortRun 0 = .ok (.iload_n 1, 1) := by decide +kernel
theorem dX1_sortRun_1 : decode cX1_sortRun 1 = .ok (.iconst 1, 1) := by decide +kernel
theorem dX1_sortRun_2 : decode cX1_sortRun 2 = .ok (.iadd, 1) := by decide +kernel
theorem dX1_sortRun_3 : decode cX1_sortRun 3 = .ok (.istore 4, 2) := by decide +kernel
theorem dX1_sortRun_5 : decode cX1_sortRun 5 = .ok (.iload 4, 2) := by decide +kernel
theorem dX1_sortRun_7 : decode cX1_sortRun 7 = .ok (.iload_n 2, 1) := by decide +kernel
theorem dX1_sortRun_8 : decode cX1_sortRun 8 = .ok (.if_icmp .ge 85, 3) := by decide +kernel
theorem dX1_sortRun_11 : decode cX1_sortRun 11 = .ok (.iload 4, 2) := by decide +kernel
theorem dX1_sortRun_13 : decode cX1_sortRun 13 = .ok (.istore 5, 2) := by decide +kernel
theorem dX1_sortRun_15 : decode cX1_sortRun 15 = .ok (.iload 5, 2) := by decide +kernel
theorem dX1_sortRun_17 : decode cX1_sortRun 17 = .ok (.iload_n 1, 1) := by decide +kernel
theorem dX1_sortRun_18 : decode cX1_sortRun 18 = .ok (.if_icmp .le 69, 3) := by decide +kernel
theorem dX1_sortRun_21 : decode cX1_sortRun 21 = .ok (.aload_n 0, 1) := by decide +kernel
theorem dX1_sortRun_22 : decode cX1_sortRun 22 = .ok (.aload_n 0, 1) := by decide +kernel
theorem dX1_sortRun_23 : decode cX1_sortRun 23 = .ok (.getfield 28, 3) := by decide +kernel
theorem dX1_sortRun_26 : decode cX1_sortRun 26 = .ok (.iload 5, 2) := by decide +kernel
theorem dX1_sortRun_28 : decode cX1_sortRun 28 = .ok (.iaload, 1) := by decide +kernel
theorem dX1_sortRun_29 : decode cX1_sortRun 29 = .ok (.aload_n 0, 1) := by decide +kernel
theorem dX1_sortRun_30 : decode cX1_sortRun 30 = .ok (.getfield 28, 3) := by decide +kernel
theorem dX1_sortRun_33 : decode cX1_sortRun 33 = .ok (.iload 5, 2) := by decide +kernel
theorem dX1_sortRun_35 : decode cX1_sortRun 35 = .ok (.iconst 1, 1) := by decide +kernel
theorem dX1_sortRun_36 : decode cX1_sortRun 36 = .ok (.isub, 1) := by decide +kernel
theorem dX1_sortRun_37 : decode cX1_sortRun 37 = .ok (.iaload, 1) := by decide +kernel
theorem dX1_sortRun_38 : decode cX1_sortRun 38 = .ok (.iload_n 3, 1) := by decide +kernel
theorem dX1_sortRun_39 : decode cX1_sortRun 39 = .ok (.invokevirtual 180, 3) := by decide +kernel
theorem dX1_sortRun_42 : decode cX1_sortRun 42 = .ok (.ifCond .eq 45, 3) := by decide +kernel
theorem dX1_sortRun_45 : decode cX1_sortRun 45 = .ok (.aload_n 0, 1) := by decide +kernel
theorem dX1_sortRun_46 : decode cX1_sortRun 46 = .ok (.getfield 28, 3) := by decide +kernel
theorem dX1_sortRun_49 : decode cX1_sortRun 49 = .ok (.iload 5, 2) := by decide +kernel
theorem dX1_sortRun_51 : decode cX1_sortRun 51 = .ok (.iconst 1, 1) := by decide +kernel
theorem dX1_sortRun_52 : decode cX1_sortRun 52 = .ok (.isub, 1) := by decide +kernel
theorem dX1_sortRun_53 : decode cX1_sortRun 53 = .ok (.iaload, 1) := by decide +kernel
theorem dX1_sortRun_54 : decode cX1_sortRun 54 = .ok (.istore 6, 2) := by decide +kernel
theorem dX1_sortRun_56 : decode cX1_sortRun 56 = .ok (.aload_n 0, 1) := by decide +kernel
theorem dX1_sortRun_57 : decode cX1_sortRun 57 = .ok (.getfield 28, 3) := by decide +kernel
theorem dX1_sortRun_60 : decode cX1_sortRun 60 = .ok (.iload 5, 2) := by decide +kernel
theorem dX1_sortRun_62 : decode cX1_sortRun 62 = .ok (.iconst 1, 1) := by decide +kernel
theorem dX1_sortRun_63 : decode cX1_sortRun 63 = .ok (.isub, 1) := by decide +kernel
theorem dX1_sortRun_64 : decode cX1_sortRun 64 = .ok (.aload_n 0, 1) := by decide +kernel
theorem dX1_sortRun_65 : decode cX1_sortRun 65 = .ok (.getfield 28, 3) := by decide +kernel
theorem dX1_sortRun_68 : decode cX1_sortRun 68 = .ok (.iload 5, 2) := by decide +kernel
theorem dX1_sortRun_70 : decode cX1_sortRun 70 = .ok (.iaload, 1) := by decide +kernel
theorem dX1_sortRun_71 : decode cX1_sortRun 71 = .ok (.iastore, 1) := by decide +kernel
theorem dX1_sortRun_72 : decode cX1_sortRun 72 = .ok (.aload_n 0, 1) := by decide +kernel
theorem dX1_sortRun_73 : decode cX1_sortRun 73 = .ok (.getfield 28, 3) := by decide +kernel
theorem dX1_sortRun_76 : decode cX1_sortRun 76 = .ok (.iload 5, 2) := by decide +kernel
theorem dX1_sortRun_78 : decode cX1_sortRun 78 = .ok (.iload 6, 2) := by decide +kernel
theorem dX1_sortRun_80 : decode cX1_sortRun 80 = .ok (.iastore, 1) := by decide +kernel
theorem dX1_sortRun_81 : decode cX1_sortRun 81 = .ok (.iinc 5 (-1), 3) := by decide +kernel
theorem dX1_sortRun_84 : decode cX1_sortRun 84 = .ok (.goto (-69), 3) := by decide +kernel
theorem dX1_sortRun_87 : decode cX1_sortRun 87 = .ok (.iinc 4 1, 3) := by decide +kernel
theorem dX1_sortRun_90 : decode cX1_sortRun 90 = .ok (.goto (-85), 3) := by decide +kernel
theorem dX1_sortRun_93 : decode cX1_sortRun 93 = .ok (.return_, 1) := by decide +kernel
set_option maxRecDepth 20000 in
theorem ggX1_comesBefore_X0_sum : GoodIn wsX1_comesBefore wsX0_sum := goodIn_r _ [5, 6, 7, 8, 3, 9, 10, 29] (by decide +kernel) (by decide +kernel)
set_option maxRecDepth 20000 in
theorem gX1_comesBefore_X0_sum_n171 : GoodIn wsX1_comesBefore (wsX0_sum) := ggX1_comesBefore_X0_sum
theorem dX1_comesBefore_0 : decode cX1_comesBefore 0 = .ok (.aload_n 0, 1) := by decide +kernel
theorem dX1_comesBefore_1 : decode cX1_comesBefore 1 = .ok (.getfield 24, 3) := by decide +kernel
theorem dX1_comesBefore_4 : decode cX1_comesBefore 4 = .ok (.iload_n 1, 1) := by decide +kernel
theorem dX1_comesBefore_5 : decode cX1_comesBefore 5 = .ok (.iload_n 3, 1) := by decide +kernel
theorem dX1_comesBefore_6 : decode cX1_comesBefore 6 = .ok (.invokevirtual 171, 3) := by decide +kernel
theorem dX1_comesBefore_9 : decode cX1_comesBefore 9 = .ok (.istore 4, 2) := by decide +kernel
theorem dX1_comesBefore_11 : decode cX1_comesBefore 11 = .ok (.aload_n 0, 1) := by decide +kernel
theorem dX1_comesBefore_12 : decode cX1_comesBefore 12 = .ok (.getfield 24, 3) := by decide +kernel
theorem dX1_comesBefore_15 : decode cX1_comesBefore 15 = .ok (.iload_n 2, 1) := by decide +kernel
theorem dX1_comesBefore_16 : decode cX1_comesBefore 16 = .ok (.iload_n 3, 1) := by decide +kernel
theorem dX1_comesBefore_17 : decode cX1_comesBefore 17 = .ok (.invokevirtual 171, 3) := by decide +kernel
theorem dX1_comesBefore_20 : decode cX1_comesBefore 20 = .ok (.istore 5, 2) := by decide +kernel
theorem dX1_comesBefore_22 : decode cX1_comesBefore 22 = .ok (.iload 4, 2) := by decide +kernel
theorem dX1_comesBefore_24 : decode cX1_comesBefore 24 = .ok (.iload 5, 2) := by decide +kernel
theorem dX1_comesBefore_26 : decode cX1_comesBefore 26 = .ok (.if_icmp .lt 15, 3) := by decide +kernel
theorem dX1_comesBefore_29 : decode cX1_comesBefore 29 = .ok (.iload 4, 2) := by decide +kernel
theorem dX1_comesBefore_31 : decode cX1_comesBefore 31 = .ok (.iload 5, 2) := by decide +kernel
theorem dX1_comesBefore_33 : decode cX1_comesBefore 33 = .ok (.if_icmp .ne 12, 3) := by decide +kernel
theorem dX1_comesBefore_36 : decode cX1_comesBefore 36 = .ok (.iload_n 1, 1) := by decide +kernel
theorem dX1_comesBefore_37 : decode cX1_comesBefore 37 = .ok (.iload_n 2, 1) := by decide +kernel
theorem dX1_comesBefore_38 : decode cX1_comesBefore 38 = .ok (.if_icmp .ge 7, 3) := by decide +kernel
theorem dX1_comesBefore_41 : decode cX1_comesBefore 41 = .ok (.iconst 1, 1) := by decide +kernel
theorem dX1_comesBefore_42 : decode cX1_comesBefore 42 = .ok (.goto 4, 3) := by decide +kernel
theorem dX1_comesBefore_45 : decode cX1_comesBefore 45 = .ok (.iconst 0, 1) := by decide +kernel
theorem dX1_comesBefore_46 : decode cX1_comesBefore 46 = .ok (.ireturn, 1) := by decide +kernel
theorem dX1_forgetAsked_0 : decode cX1_forgetAsked 0 = .ok (.iconst 0, 1) := by decide +kernel
theorem dX1_forgetAsked_1 : decode cX1_forgetAsked 1 = .ok (.istore_n 1, 1) := by decide +kernel
theorem dX1_forgetAsked_2 : decode cX1_forgetAsked 2 = .ok (.iload_n 1, 1) := by decide +kernel
theorem dX1_forgetAsked_3 : decode cX1_forgetAsked 3 = .ok (.bipush 64, 2) := by decide +kernel
theorem dX1_forgetAsked_5 : decode cX1_forgetAsked 5 = .ok (.if_icmp .ge 16, 3) := by decide +kernel
theorem dX1_forgetAsked_8 : decode cX1_forgetAsked 8 = .ok (.aload_n 0, 1) := by decide +kernel
theorem dX1_forgetAsked_9 : decode cX1_forgetAsked 9 = .ok (.getfield 50, 3) := by decide +kernel
theorem dX1_forgetAsked_12 : decode cX1_forgetAsked 12 = .ok (.iload_n 1, 1) := by decide +kernel
theorem dX1_forgetAsked_13 : decode cX1_forgetAsked 13 = .ok (.iconst 0, 1) := by decide +kernel
theorem dX1_forgetAsked_14 : decode cX1_forgetAsked 14 = .ok (.bastore, 1) := by decide +kernel
theorem dX1_forgetAsked_15 : decode cX1_forgetAsked 15 = .ok (.iinc 1 1, 3) := by decide +kernel
theorem dX1_forgetAsked_18 : decode cX1_forgetAsked 18 = .ok (.goto (-16), 3) := by decide +kernel
theorem dX1_forgetAsked_21 : decode cX1_forgetAsked 21 = .ok (.aload_n 0, 1) := by decide +kernel
theorem dX1_forgetAsked_22 : decode cX1_forgetAsked 22 = .ok (.iconst 0, 1) := by decide +kernel
theorem dX1_forgetAsked_23 : decode cX1_forgetAsked 23 = .ok (.putfield 114, 3) := by decide +kernel
theorem dX1_forgetAsked_26 : decode cX1_forgetAsked 26 = .ok (.iconst 0, 1) := by decide +kernel
theorem dX1_forgetAsked_27 : decode cX1_forgetAsked 27 = .ok (.istore_n 1, 1) := by decide +kernel
theorem dX1_forgetAsked_28 : decode cX1_forgetAsked 28 = .ok (.iload_n 1, 1) := by decide +kernel
theorem dX1_forgetAsked_29 : decode cX1_forgetAsked 29 = .ok (.iconst 3, 1) := by decide +kernel
theorem dX1_forgetAsked_30 : decode cX1_forgetAsked 30 = .ok (.if_icmp .ge 16, 3) := by decide +kernel
theorem dX1_forgetAsked_33 : decode cX1_forgetAsked 33 = .ok (.aload_n 0, 1) := by decide +kernel
theorem dX1_forgetAsked_34 : decode cX1_forgetAsked 34 = .ok (.getfield 53, 3) := by decide +kernel
theorem dX1_forgetAsked_37 : decode cX1_forgetAsked 37 = .ok (.iload_n 1, 1) := by decide +kernel
theorem dX1_forgetAsked_38 : decode cX1_forgetAsked 38 = .ok (.iconst 0, 1) := by decide +kernel
theorem dX1_forgetAsked_39 : decode cX1_forgetAsked 39 = .ok (.iastore, 1) := by decide +kernel
theorem dX1_forgetAsked_40 : decode cX1_forgetAsked 40 = .ok (.iinc 1 1, 3) := by decide +kernel
theorem dX1_forgetAsked_43 : decode cX1_forgetAsked 43 = .ok (.goto (-15), 3) := by decide +kernel
theorem dX1_forgetAsked_46 : decode cX1_forgetAsked 46 = .ok (.return_, 1) := by decide +kernel
set_option maxRecDepth 20000 in
theorem ggX1_askBlocks_X1_verdictOn : GoodIn wsX1_askBlocks wsX1_verdictOn := goodIn_r _ [8, 9, 10, 11, 12, 13, 14, 15, 16, 17, 18, 19, 20, 21, 53, 54, 55, 56, 57, 58, 59, 60, 61, 62, 63, 64, 65, 66, 67, 68, 69, 70, 71] (by decide +kernel) (by decide +kernel)
set_option maxRecDepth 20000 in
theorem gX1_askBlocks_X1_verdictOn : GoodIn wsX1_askBlocks (wsV RX1 183 RX1 yX1_verdictOn wsX1_verdictOn) := goodIn_app (goodIn_of _ (by decide +kernel)) ggX1_askBlocks_X1_verdictOn
set_option maxRecDepth 20000 in
theorem ggX1_askBlocks_X1_findAllOf : GoodIn wsX1_askBlocks wsX1_findAllOf := goodIn_r _ [25, 26, 2, 27, 28, 3, 29, 30, 31, 7, 32, 33, 34, 53, 54, 55, 56, 57, 58, 59, 60, 61, 62, 63, 64, 65, 66, 67, 68, 69, 70] (by decide +kernel) (by decide +kernel)
set_option maxRecDepth 20000 in
theorem gX1_askBlocks_X1_findAllOf : GoodIn wsX1_askBlocks (wsV RX1 186 RX1 yX1_findAllOf wsX1_findAllOf) := goodIn_app (goodIn_of _ (by decide +kernel)) ggX1_askBlocks_X1_findAllOf
set_option maxRecDepth 20000 in
theorem ggX1_askBlocks_X1_isParted : GoodIn wsX1_askBlocks wsX1_isParted := goodIn_r _ [38, 39, 53, 54, 55, 56, 57, 58, 59, 60, 61, 62, 63, 64, 65, 66, 67, 68, 69, 70] (by decide +kernel) (by decide +kernel)
set_option maxRecDepth 20000 in
theorem gX1_askBlocks_X1_isParted : GoodIn wsX1_askBlocks (wsV RX1 104 RX1 yX1_isParted wsX1_isParted) := goodIn_app (goodIn_of _ (by decide +kernel)) ggX1_askBlocks_X1_isParted
set_option maxRecDepth 20000 in
theorem ggX1_askBlocks_X1_askThingsOf : GoodIn wsX1_askBlocks wsX1_askThingsOf := goodIn_r _ [43, 26, 2, 28, 44, 45, 46, 7, 47, 27, 48, 49, 50, 51, 52, 9, 11, 20, 13, 21, 15, 16, 17, 18, 19, 12, 14, 29, 30, 31, 32, 33, 34, 53, 54, 55, 56, 57, 58, 59, 60, 61, 62, 63, 64, 65, 66, 67, 68, 69, 70, 71] (by decide +kernel) (by decide +kernel)
set_option maxRecDepth 20000 in
theorem gX1_askBlocks_X1_askThingsOf : GoodIn wsX1_askBlocks (wsV RX1 189 RX1 yX1_askThingsOf wsX1_askThingsOf) := goodIn_app (goodIn_of _ (by decide +kernel)) ggX1_askBlocks_X1_askThingsOf
theorem dX1_askBlocks_0 : decode cX1_askBlocks 0 = .ok (.iconst 0, 1) := by decide +kernel
theorem dX1_askBlocks_1 : decode cX1_askBlocks 1 = .ok (.istore_n 2, 1) := by decide +kernel
theorem dX1_askBlocks_2 : decode cX1_askBlocks 2 = .ok (.iconst 0, 1) := by decide +kernel
theorem dX1_askBlocks_3 : decode cX1_askBlocks 3 = .ok (.istore_n 3, 1) := by decide +kernel
theorem dX1_askBlocks_4 : decode cX1_askBlocks 4 = .ok (.iload_n 3, 1) := by decide +kernel
theorem dX1_askBlocks_5 : decode cX1_askBlocks 5 = .ok (.aload_n 0, 1) := by decide +kernel
theorem dX1_askBlocks_6 : decode cX1_askBlocks 6 = .ok (.getfield 66, 3) := by decide +kernel
theorem dX1_askBlocks_9 : decode cX1_askBlocks 9 = .ok (.if_icmp .ge 91, 3) := by decide +kernel
theorem dX1_askBlocks_12 : decode cX1_askBlocks 12 = .ok (.aload_n 0, 1) := by decide +kernel
theorem dX1_askBlocks_13 : decode cX1_askBlocks 13 = .ok (.getfield 35, 3) := by decide +kernel
theorem dX1_askBlocks_16 : decode cX1_askBlocks 16 = .ok (.iload_n 3, 1) := by decide +kernel
theorem dX1_askBlocks_17 : decode cX1_askBlocks 17 = .ok (.iaload, 1) := by decide +kernel
theorem dX1_askBlocks_18 : decode cX1_askBlocks 18 = .ok (.iload_n 2, 1) := by decide +kernel
theorem dX1_askBlocks_19 : decode cX1_askBlocks 19 = .ok (.if_icmp .gt 6, 3) := by decide +kernel
theorem dX1_askBlocks_22 : decode cX1_askBlocks 22 = .ok (.goto 72, 3) := by decide +kernel
theorem dX1_askBlocks_25 : decode cX1_askBlocks 25 = .ok (.aload_n 0, 1) := by decide +kernel
theorem dX1_askBlocks_26 : decode cX1_askBlocks 26 = .ok (.iload_n 3, 1) := by decide +kernel
theorem dX1_askBlocks_27 : decode cX1_askBlocks 27 = .ok (.iload_n 1, 1) := by decide +kernel
theorem dX1_askBlocks_28 : decode cX1_askBlocks 28 = .ok (.invokevirtual 183, 3) := by decide +kernel
theorem dX1_askBlocks_31 : decode cX1_askBlocks 31 = .ok (.istore 4, 2) := by decide +kernel
theorem dX1_askBlocks_33 : decode cX1_askBlocks 33 = .ok (.iload 4, 2) := by decide +kernel
theorem dX1_askBlocks_35 : decode cX1_askBlocks 35 = .ok (.iconst 2, 1) := by decide +kernel
theorem dX1_askBlocks_36 : decode cX1_askBlocks 36 = .ok (.if_icmp .eq 34, 3) := by decide +kernel
theorem dX1_askBlocks_39 : decode cX1_askBlocks 39 = .ok (.aload_n 0, 1) := by decide +kernel
theorem dX1_askBlocks_40 : decode cX1_askBlocks 40 = .ok (.getfield 53, 3) := by decide +kernel
theorem dX1_askBlocks_43 : decode cX1_askBlocks 43 = .ok (.iconst 1, 1) := by decide +kernel
theorem dX1_askBlocks_44 : decode cX1_askBlocks 44 = .ok (.dup2, 1) := by decide +kernel
theorem dX1_askBlocks_45 : decode cX1_askBlocks 45 = .ok (.iaload, 1) := by decide +kernel
theorem dX1_askBlocks_46 : decode cX1_askBlocks 46 = .ok (.iconst 1, 1) := by decide +kernel
theorem dX1_askBlocks_47 : decode cX1_askBlocks 47 = .ok (.iadd, 1) := by decide +kernel
theorem dX1_askBlocks_48 : decode cX1_askBlocks 48 = .ok (.iastore, 1) := by decide +kernel
theorem dX1_askBlocks_49 : decode cX1_askBlocks 49 = .ok (.iload 4, 2) := by decide +kernel
theorem dX1_askBlocks_51 : decode cX1_askBlocks 51 = .ok (.iconst 1, 1) := by decide +kernel
theorem dX1_askBlocks_52 : decode cX1_askBlocks 52 = .ok (.if_icmp .ne 8, 3) := by decide +kernel
theorem dX1_askBlocks_55 : decode cX1_askBlocks 55 = .ok (.aload_n 0, 1) := by decide +kernel
theorem dX1_askBlocks_56 : decode cX1_askBlocks 56 = .ok (.iload_n 3, 1) := by decide +kernel
theorem dX1_askBlocks_57 : decode cX1_askBlocks 57 = .ok (.invokevirtual 186, 3) := by decide +kernel
theorem dX1_askBlocks_60 : decode cX1_askBlocks 60 = .ok (.aload_n 0, 1) := by decide +kernel
theorem dX1_askBlocks_61 : decode cX1_askBlocks 61 = .ok (.getfield 35, 3) := by decide +kernel
theorem dX1_askBlocks_64 : decode cX1_askBlocks 64 = .ok (.iload_n 3, 1) := by decide +kernel
theorem dX1_askBlocks_65 : decode cX1_askBlocks 65 = .ok (.iaload, 1) := by decide +kernel
theorem dX1_askBlocks_66 : decode cX1_askBlocks 66 = .ok (.istore_n 2, 1) := by decide +kernel
theorem dX1_askBlocks_67 : decode cX1_askBlocks 67 = .ok (.goto 27, 3) := by decide +kernel
theorem dX1_askBlocks_70 : decode cX1_askBlocks 70 = .ok (.aload_n 0, 1) := by decide +kernel
theorem dX1_askBlocks_71 : decode cX1_askBlocks 71 = .ok (.getfield 53, 3) := by decide +kernel
theorem dX1_askBlocks_74 : decode cX1_askBlocks 74 = .ok (.iconst 0, 1) := by decide +kernel
theorem dX1_askBlocks_75 : decode cX1_askBlocks 75 = .ok (.dup2, 1) := by decide +kernel
theorem dX1_askBlocks_76 : decode cX1_askBlocks 76 = .ok (.iaload, 1) := by decide +kernel
theorem dX1_askBlocks_77 : decode cX1_askBlocks 77 = .ok (.iconst 1, 1) := by decide +kernel
theorem dX1_askBlocks_78 : decode cX1_askBlocks 78 = .ok (.iadd, 1) := by decide +kernel
theorem dX1_askBlocks_79 : decode cX1_askBlocks 79 = .ok (.iastore, 1) := by decide +kernel
theorem dX1_askBlocks_80 : decode cX1_askBlocks 80 = .ok (.aload_n 0, 1) := by decide +kernel
theorem dX1_askBlocks_81 : decode cX1_askBlocks 81 = .ok (.iload_n 3, 1) := by decide +kernel
theorem dX1_askBlocks_82 : decode cX1_askBlocks 82 = .ok (.invokevirtual 104, 3) := by decide +kernel
theorem dX1_askBlocks_85 : decode cX1_askBlocks 85 = .ok (.ifCond .ne 9, 3) := by decide +kernel
theorem dX1_askBlocks_88 : decode cX1_askBlocks 88 = .ok (.aload_n 0, 1) := by decide +kernel
theorem dX1_askBlocks_89 : decode cX1_askBlocks 89 = .ok (.iload_n 3, 1) := by decide +kernel
theorem dX1_askBlocks_90 : decode cX1_askBlocks 90 = .ok (.iload_n 1, 1) := by decide +kernel
theorem dX1_askBlocks_91 : decode cX1_askBlocks 91 = .ok (.invokevirtual 189, 3) := by decide +kernel
theorem dX1_askBlocks_94 : decode cX1_askBlocks 94 = .ok (.iinc 3 1, 3) := by decide +kernel
theorem dX1_askBlocks_97 : decode cX1_askBlocks 97 = .ok (.goto (-93), 3) := by decide +kernel
theorem dX1_askBlocks_100 : decode cX1_askBlocks 100 = .ok (.return_, 1) := by decide +kernel
set_option maxRecDepth 20000 in
theorem ggX1_verdictOn_X0_within : GoodIn wsX1_verdictOn wsX0_within := goodIn_r _ [6, 7, 8, 9, 5, 10, 11, 32] (by decide +kernel) (by decide +kernel)
set_option maxRecDepth 20000 in
theorem gX1_verdictOn_X0_within_n192 : GoodIn wsX1_verdictOn (wsX0_within) := ggX1_verdictOn_X0_within
set_option maxRecDepth 20000 in
theorem ggX1_verdictOn_X0_meet : GoodIn wsX1_verdictOn wsX0_meet := goodIn_r _ [13, 7, 8, 9, 5, 10, 11, 32] (by decide +kernel) (by decide +kernel)
set_option maxRecDepth 20000 in
theorem gX1_verdictOn_X0_meet_n129 : GoodIn wsX1_verdictOn (wsX0_meet) := ggX1_verdictOn_X0_meet
theorem dX1_verdictOn_0 : decode cX1_verdictOn 0 = .ok (.iload_n 2, 1) := by decide +kernel
theorem dX1_verdictOn_1 : decode cX1_verdictOn 1 = .ok (.iconst 2, 1) := by decide +kernel
theorem dX1_verdictOn_2 : decode cX1_verdictOn 2 = .ok (.if_icmp .ne 29, 3) := by decide +kernel
theorem dX1_verdictOn_5 : decode cX1_verdictOn 5 = .ok (.aload_n 0, 1) := by decide +kernel
theorem dX1_verdictOn_6 : decode cX1_verdictOn 6 = .ok (.getfield 47, 3) := by decide +kernel
theorem dX1_verdictOn_9 : decode cX1_verdictOn 9 = .ok (.iconst 0, 1) := by decide +kernel
theorem dX1_verdictOn_10 : decode cX1_verdictOn 10 = .ok (.aload_n 0, 1) := by decide +kernel
theorem dX1_verdictOn_11 : decode cX1_verdictOn 11 = .ok (.getfield 44, 3) := by decide +kernel
theorem dX1_verdictOn_14 : decode cX1_verdictOn 14 = .ok (.iload_n 1, 1) := by decide +kernel
theorem dX1_verdictOn_15 : decode cX1_verdictOn 15 = .ok (.aload_n 0, 1) := by decide +kernel
theorem dX1_verdictOn_16 : decode cX1_verdictOn 16 = .ok (.getfield 9, 3) := by decide +kernel
theorem dX1_verdictOn_19 : decode cX1_verdictOn 19 = .ok (.invokestatic 192, 3) := by decide +kernel
theorem dX1_verdictOn_22 : decode cX1_verdictOn 22 = .ok (.ifCond .eq 7, 3) := by decide +kernel
theorem dX1_verdictOn_25 : decode cX1_verdictOn 25 = .ok (.iconst 2, 1) := by decide +kernel
theorem dX1_verdictOn_26 : decode cX1_verdictOn 26 = .ok (.goto 4, 3) := by decide +kernel
theorem dX1_verdictOn_29 : decode cX1_verdictOn 29 = .ok (.iconst 0, 1) := by decide +kernel
theorem dX1_verdictOn_30 : decode cX1_verdictOn 30 = .ok (.ireturn, 1) := by decide +kernel
theorem dX1_verdictOn_31 : decode cX1_verdictOn 31 = .ok (.aload_n 0, 1) := by decide +kernel
theorem dX1_verdictOn_32 : decode cX1_verdictOn 32 = .ok (.getfield 44, 3) := by decide +kernel
theorem dX1_verdictOn_35 : decode cX1_verdictOn 35 = .ok (.iload_n 1, 1) := by decide +kernel
theorem dX1_verdictOn_36 : decode cX1_verdictOn 36 = .ok (.aload_n 0, 1) := by decide +kernel
theorem dX1_verdictOn_37 : decode cX1_verdictOn 37 = .ok (.getfield 47, 3) := by decide +kernel
theorem dX1_verdictOn_40 : decode cX1_verdictOn 40 = .ok (.iconst 0, 1) := by decide +kernel
theorem dX1_verdictOn_41 : decode cX1_verdictOn 41 = .ok (.aload_n 0, 1) := by decide +kernel
theorem dX1_verdictOn_42 : decode cX1_verdictOn 42 = .ok (.getfield 9, 3) := by decide +kernel
theorem dX1_verdictOn_45 : decode cX1_verdictOn 45 = .ok (.invokestatic 129, 3) := by decide +kernel
theorem dX1_verdictOn_48 : decode cX1_verdictOn 48 = .ok (.ifCond .ne 14, 3) := by decide +kernel
theorem dX1_verdictOn_51 : decode cX1_verdictOn 51 = .ok (.iload_n 2, 1) := by decide +kernel
theorem dX1_verdictOn_52 : decode cX1_verdictOn 52 = .ok (.iconst 3, 1) := by decide +kernel
theorem dX1_verdictOn_53 : decode cX1_verdictOn 53 = .ok (.if_icmp .ne 7, 3) := by decide +kernel
theorem dX1_verdictOn_56 : decode cX1_verdictOn 56 = .ok (.iconst 1, 1) := by decide +kernel
theorem dX1_verdictOn_57 : decode cX1_verdictOn 57 = .ok (.goto 4, 3) := by decide +kernel
theorem dX1_verdictOn_60 : decode cX1_verdictOn 60 = .ok (.iconst 0, 1) := by decide +kernel
theorem dX1_verdictOn_61 : decode cX1_verdictOn 61 = .ok (.ireturn, 1) := by decide +kernel
theorem dX1_verdictOn_62 : decode cX1_verdictOn 62 = .ok (.aload_n 0, 1) := by decide +kernel
theorem dX1_verdictOn_63 : decode cX1_verdictOn 63 = .ok (.getfield 44, 3) := by decide +kernel
theorem dX1_verdictOn_66 : decode cX1_verdictOn 66 = .ok (.iload_n 1, 1) := by decide +kernel
theorem dX1_verdictOn_67 : decode cX1_verdictOn 67 = .ok (.aload_n 0, 1) := by decide +kernel
theorem dX1_verdictOn_68 : decode cX1_verdictOn 68 = .ok (.getfield 47, 3) := by decide +kernel
theorem dX1_verdictOn_71 : decode cX1_verdictOn 71 = .ok (.iconst 0, 1) := by decide +kernel
theorem dX1_verdictOn_72 : decode cX1_verdictOn 72 = .ok (.aload_n 0, 1) := by decide +kernel
theorem dX1_verdictOn_73 : decode cX1_verdictOn 73 = .ok (.getfield 9, 3) := by decide +kernel
theorem dX1_verdictOn_76 : decode cX1_verdictOn 76 = .ok (.invokestatic 192, 3) := by decide +kernel
theorem dX1_verdictOn_79 : decode cX1_verdictOn 79 = .ok (.ifCond .eq 14, 3) := by decide +kernel
theorem dX1_verdictOn_82 : decode cX1_verdictOn 82 = .ok (.iload_n 2, 1) := by decide +kernel
theorem dX1_verdictOn_83 : decode cX1_verdictOn 83 = .ok (.iconst 3, 1) := by decide +kernel
theorem dX1_verdictOn_84 : decode cX1_verdictOn 84 = .ok (.if_icmp .ne 7, 3) := by decide +kernel
theorem dX1_verdictOn_87 : decode cX1_verdictOn 87 = .ok (.iconst 0, 1) := by decide +kernel
theorem dX1_verdictOn_88 : decode cX1_verdictOn 88 = .ok (.goto 4, 3) := by decide +kernel
theorem dX1_verdictOn_91 : decode cX1_verdictOn 91 = .ok (.iconst 1, 1) := by decide +kernel
theorem dX1_verdictOn_92 : decode cX1_verdictOn 92 = .ok (.ireturn, 1) := by decide +kernel
theorem dX1_verdictOn_93 : decode cX1_verdictOn 93 = .ok (.iconst 2, 1) := by decide +kernel
theorem dX1_verdictOn_94 : decode cX1_verdictOn 94 = .ok (.ireturn, 1) := by decide +kernel
set_option maxRecDepth 20000 in
theorem ggX1_findAllOf_X1_markFound : GoodIn wsX1_findAllOf wsX1_markFound := goodIn_r _ [10, 11, 12, 13, 14, 15, 16, 17, 18, 19, 20, 21, 22, 23, 24, 25, 26, 27, 28, 29, 30] (by decide +kernel) (by decide +kernel)
set_option maxRecDepth 20000 in
theorem gX1_findAllOf_X1_markFound : GoodIn wsX1_findAllOf (wsV RX1 195 RX1 yX1_markFound wsX1_markFound) := goodIn_app (goodIn_of _ (by decide +kernel)) ggX1_findAllOf_X1_markFound
theorem dX1_findAllOf_0 : decode cX1_findAllOf 0 = .ok (.aload_n 0, 1) := by decide +kernel
theorem dX1_findAllOf_1 : decode cX1_findAllOf 1 = .ok (.getfield 32, 3) := by decide +kernel
theorem dX1_findAllOf_4 : decode cX1_findAllOf 4 = .ok (.iload_n 1, 1) := by decide +kernel
theorem dX1_findAllOf_5 : decode cX1_findAllOf 5 = .ok (.iaload, 1) := by decide +kernel
theorem dX1_findAllOf_6 : decode cX1_findAllOf 6 = .ok (.istore_n 2, 1) := by decide +kernel
theorem dX1_findAllOf_7 : decode cX1_findAllOf 7 = .ok (.iload_n 2, 1) := by decide +kernel
theorem dX1_findAllOf_8 : decode cX1_findAllOf 8 = .ok (.aload_n 0, 1) := by decide +kernel
theorem dX1_findAllOf_9 : decode cX1_findAllOf 9 = .ok (.getfield 35, 3) := by decide +kernel
theorem dX1_findAllOf_12 : decode cX1_findAllOf 12 = .ok (.iload_n 1, 1) := by decide +kernel
theorem dX1_findAllOf_13 : decode cX1_findAllOf 13 = .ok (.iaload, 1) := by decide +kernel
theorem dX1_findAllOf_14 : decode cX1_findAllOf 14 = .ok (.if_icmp .ge 43, 3) := by decide +kernel
theorem dX1_findAllOf_17 : decode cX1_findAllOf 17 = .ok (.aload_n 0, 1) := by decide +kernel
theorem dX1_findAllOf_18 : decode cX1_findAllOf 18 = .ok (.getfield 15, 3) := by decide +kernel
theorem dX1_findAllOf_21 : decode cX1_findAllOf 21 = .ok (.aload_n 0, 1) := by decide +kernel
theorem dX1_findAllOf_22 : decode cX1_findAllOf 22 = .ok (.getfield 28, 3) := by decide +kernel
theorem dX1_findAllOf_25 : decode cX1_findAllOf 25 = .ok (.iload_n 2, 1) := by decide +kernel
theorem dX1_findAllOf_26 : decode cX1_findAllOf 26 = .ok (.iaload, 1) := by decide +kernel
theorem dX1_findAllOf_27 : decode cX1_findAllOf 27 = .ok (.baload, 1) := by decide +kernel
theorem dX1_findAllOf_28 : decode cX1_findAllOf 28 = .ok (.ifCond .eq 23, 3) := by decide +kernel
theorem dX1_findAllOf_31 : decode cX1_findAllOf 31 = .ok (.aload_n 0, 1) := by decide +kernel
theorem dX1_findAllOf_32 : decode cX1_findAllOf 32 = .ok (.aload_n 0, 1) := by decide +kernel
theorem dX1_findAllOf_33 : decode cX1_findAllOf 33 = .ok (.getfield 28, 3) := by decide +kernel
theorem dX1_findAllOf_36 : decode cX1_findAllOf 36 = .ok (.iload_n 2, 1) := by decide +kernel
theorem dX1_findAllOf_37 : decode cX1_findAllOf 37 = .ok (.iaload, 1) := by decide +kernel
theorem dX1_findAllOf_38 : decode cX1_findAllOf 38 = .ok (.invokevirtual 195, 3) := by decide +kernel
theorem dX1_findAllOf_41 : decode cX1_findAllOf 41 = .ok (.aload_n 0, 1) := by decide +kernel
theorem dX1_findAllOf_42 : decode cX1_findAllOf 42 = .ok (.getfield 53, 3) := by decide +kernel
theorem dX1_findAllOf_45 : decode cX1_findAllOf 45 = .ok (.iconst 2, 1) := by decide +kernel
theorem dX1_findAllOf_46 : decode cX1_findAllOf 46 = .ok (.dup2, 1) := by decide +kernel
theorem dX1_findAllOf_47 : decode cX1_findAllOf 47 = .ok (.iaload, 1) := by decide +kernel
theorem dX1_findAllOf_48 : decode cX1_findAllOf 48 = .ok (.iconst 1, 1) := by decide +kernel
theorem dX1_findAllOf_49 : decode cX1_findAllOf 49 = .ok (.iadd, 1) := by decide +kernel
theorem dX1_findAllOf_50 : decode cX1_findAllOf 50 = .ok (.iastore, 1) := by decide +kernel
theorem dX1_findAllOf_51 : decode cX1_findAllOf 51 = .ok (.iinc 2 1, 3) := by decide +kernel
theorem dX1_findAllOf_54 : decode cX1_findAllOf 54 = .ok (.goto (-47), 3) := by decide +kernel
theorem dX1_findAllOf_57 : decode cX1_findAllOf 57 = .ok (.return_, 1) := by decide +kernel
set_option maxRecDepth 20000 in
theorem ggX1_askThingsOf_X1_askThing : GoodIn wsX1_askThingsOf wsX1_askThing := goodIn_r _ [8, 9, 10, 11, 12, 7, 13, 14, 15, 16, 17, 18, 19, 20, 21, 22, 23, 24, 25, 26, 27, 28, 29, 30, 31, 32, 33, 34, 35, 36, 37, 38, 39, 40, 41, 42, 43, 44, 45, 46, 47, 48, 49, 50, 51] (by decide +kernel) (by decide +kernel)
set_option maxRecDepth 20000 in
theorem gX1_askThingsOf_X1_askThing : GoodIn wsX1_askThingsOf (wsV RX1 110 RX1 yX1_askThing wsX1_askThing) := goodIn_app (goodIn_of _ (by decide +kernel)) ggX1_askThingsOf_X1_askThing
theorem dX1_askThingsOf_0 : decode cX1_askThingsOf 0 = .ok (.aload_n 0, 1) := by decide +kernel
theorem dX1_askThingsOf_1 : decode cX1_askThingsOf 1 = .ok (.getfield 32, 3) := by decide +kernel
theorem dX1_askThingsOf_4 : decode cX1_askThingsOf 4 = .ok (.iload_n 1, 1) := by decide +kernel
theorem dX1_askThingsOf_5 : decode cX1_askThingsOf 5 = .ok (.iaload, 1) := by decide +kernel
theorem dX1_askThingsOf_6 : decode cX1_askThingsOf 6 = .ok (.istore_n 3, 1) := by decide +kernel
theorem dX1_askThingsOf_7 : decode cX1_askThingsOf 7 = .ok (.iload_n 3, 1) := by decide +kernel
theorem dX1_askThingsOf_8 : decode cX1_askThingsOf 8 = .ok (.aload_n 0, 1) := by decide +kernel
theorem dX1_askThingsOf_9 : decode cX1_askThingsOf 9 = .ok (.getfield 35, 3) := by decide +kernel
theorem dX1_askThingsOf_12 : decode cX1_askThingsOf 12 = .ok (.iload_n 1, 1) := by decide +kernel
theorem dX1_askThingsOf_13 : decode cX1_askThingsOf 13 = .ok (.iaload, 1) := by decide +kernel
theorem dX1_askThingsOf_14 : decode cX1_askThingsOf 14 = .ok (.if_icmp .ge 20, 3) := by decide +kernel
theorem dX1_askThingsOf_17 : decode cX1_askThingsOf 17 = .ok (.aload_n 0, 1) := by decide +kernel
theorem dX1_askThingsOf_18 : decode cX1_askThingsOf 18 = .ok (.aload_n 0, 1) := by decide +kernel
theorem dX1_askThingsOf_19 : decode cX1_askThingsOf 19 = .ok (.getfield 28, 3) := by decide +kernel
theorem dX1_askThingsOf_22 : decode cX1_askThingsOf 22 = .ok (.iload_n 3, 1) := by decide +kernel
theorem dX1_askThingsOf_23 : decode cX1_askThingsOf 23 = .ok (.iaload, 1) := by decide +kernel
theorem dX1_askThingsOf_24 : decode cX1_askThingsOf 24 = .ok (.iload_n 2, 1) := by decide +kernel
theorem dX1_askThingsOf_25 : decode cX1_askThingsOf 25 = .ok (.invokevirtual 110, 3) := by decide +kernel
theorem dX1_askThingsOf_28 : decode cX1_askThingsOf 28 = .ok (.iinc 3 1, 3) := by decide +kernel
theorem dX1_askThingsOf_31 : decode cX1_askThingsOf 31 = .ok (.goto (-24), 3) := by decide +kernel
theorem dX1_askThingsOf_34 : decode cX1_askThingsOf 34 = .ok (.return_, 1) := by decide +kernel
set_option maxRecDepth 20000 in
theorem ggX1_askThing_X1_isSo : GoodIn wsX1_askThing wsX1_isSo := goodIn_r _ [6, 7, 8, 9, 10, 11, 12, 13, 14, 15, 16, 17, 18, 19, 26, 27, 28, 29, 30, 31, 32, 33, 34, 35, 36, 37, 38, 39, 40, 41, 42, 43, 44] (by decide +kernel) (by decide +kernel)
set_option maxRecDepth 20000 in
theorem gX1_askThing_X1_isSo : GoodIn wsX1_askThing (wsV RX1 198 RX1 yX1_isSo wsX1_isSo) := goodIn_app (goodIn_of _ (by decide +kernel)) ggX1_askThing_X1_isSo
set_option maxRecDepth 20000 in
theorem ggX1_askThing_X1_markFound : GoodIn wsX1_askThing wsX1_markFound := goodIn_r _ [23, 24, 25, 26, 27, 28, 29, 30, 31, 32, 33, 34, 35, 36, 37, 38, 39, 40, 41, 42, 43] (by decide +kernel) (by decide +kernel)
set_option maxRecDepth 20000 in
theorem gX1_askThing_X1_markFound : GoodIn wsX1_askThing (wsV RX1 195 RX1 yX1_markFound wsX1_markFound) := goodIn_app (goodIn_of _ (by decide +kernel)) ggX1_askThing_X1_markFound
theorem dX1_askThing_0 : decode cX1_askThing 0 = .ok (.aload_n 0, 1) := by decide +kernel
theorem dX1_askThing_1 : decode cX1_askThing 1 = .ok (.getfield 15, 3) := by decide +kernel
theorem dX1_askThing_4 : decode cX1_askThing 4 = .ok (.iload_n 1, 1) := by decide +kernel
theorem dX1_askThing_5 : decode cX1_askThing 5 = .ok (.baload, 1) := by decide +kernel
theorem dX1_askThing_6 : decode cX1_askThing 6 = .ok (.ifCond .eq 17, 3) := by decide +kernel
theorem dX1_askThing_9 : decode cX1_askThing 9 = .ok (.aload_n 0, 1) := by decide +kernel
theorem dX1_askThing_10 : decode cX1_askThing 10 = .ok (.iload_n 1, 1) := by decide +kernel
theorem dX1_askThing_11 : decode cX1_askThing 11 = .ok (.iload_n 2, 1) := by decide +kernel
theorem dX1_askThing_12 : decode cX1_askThing 12 = .ok (.invokevirtual 198, 3) := by decide +kernel
theorem dX1_askThing_15 : decode cX1_askThing 15 = .ok (.ifCond .eq 8, 3) := by decide +kernel
theorem dX1_askThing_18 : decode cX1_askThing 18 = .ok (.aload_n 0, 1) := by decide +kernel
theorem dX1_askThing_19 : decode cX1_askThing 19 = .ok (.iload_n 1, 1) := by decide +kernel
theorem dX1_askThing_20 : decode cX1_askThing 20 = .ok (.invokevirtual 195, 3) := by decide +kernel
theorem dX1_askThing_23 : decode cX1_askThing 23 = .ok (.return_, 1) := by decide +kernel
theorem dX1_markFound_0 : decode cX1_markFound 0 = .ok (.aload_n 0, 1) := by decide +kernel
theorem dX1_markFound_1 : decode cX1_markFound 1 = .ok (.getfield 50, 3) := by decide +kernel
theorem dX1_markFound_4 : decode cX1_markFound 4 = .ok (.iload_n 1, 1) := by decide +kernel
theorem dX1_markFound_5 : decode cX1_markFound 5 = .ok (.iconst 1, 1) := by decide +kernel
theorem dX1_markFound_6 : decode cX1_markFound 6 = .ok (.bastore, 1) := by decide +kernel
theorem dX1_markFound_7 : decode cX1_markFound 7 = .ok (.aload_n 0, 1) := by decide +kernel
theorem dX1_markFound_8 : decode cX1_markFound 8 = .ok (.dup, 1) := by decide +kernel
theorem dX1_markFound_9 : decode cX1_markFound 9 = .ok (.getfield 114, 3) := by decide +kernel
theorem dX1_markFound_12 : decode cX1_markFound 12 = .ok (.iconst 1, 1) := by decide +kernel
theorem dX1_markFound_13 : decode cX1_markFound 13 = .ok (.iadd, 1) := by decide +kernel
theorem dX1_markFound_14 : decode cX1_markFound 14 = .ok (.putfield 114, 3) := by decide +kernel
theorem dX1_markFound_17 : decode cX1_markFound 17 = .ok (.return_, 1) := by decide +kernel
set_option maxRecDepth 20000 in
theorem ggX1_isSo_X0_meet : GoodIn wsX1_isSo wsX0_meet := goodIn_r _ [6, 7, 8, 9, 5, 10, 11, 32] (by decide +kernel) (by decide +kernel)
set_option maxRecDepth 20000 in
theorem gX1_isSo_X0_meet_n129 : GoodIn wsX1_isSo (wsX0_meet) := ggX1_isSo_X0_meet
set_option maxRecDepth 20000 in
theorem ggX1_isSo_X0_within : GoodIn wsX1_isSo wsX0_within := goodIn_r _ [13, 7, 8, 9, 5, 10, 11, 32] (by decide +kernel) (by decide +kernel)
set_option maxRecDepth 20000 in
theorem gX1_isSo_X0_within_n192 : GoodIn wsX1_isSo (wsX0_within) := ggX1_isSo_X0_within
theorem dX1_isSo_0 : decode cX1_isSo 0 = .ok (.iload_n 2, 1) := by decide +kernel
theorem dX1_isSo_1 : decode cX1_isSo 1 = .ok (.tableswitch 81 0 2 #[27, 45, 63], 27) := by decide +kernel
theorem dX1_isSo_28 : decode cX1_isSo 28 = .ok (.aload_n 0, 1) := by decide +kernel
theorem dX1_isSo_29 : decode cX1_isSo 29 = .ok (.getfield 24, 3) := by decide +kernel
theorem dX1_isSo_32 : decode cX1_isSo 32 = .ok (.iload_n 1, 1) := by decide +kernel
theorem dX1_isSo_33 : decode cX1_isSo 33 = .ok (.aload_n 0, 1) := by decide +kernel
theorem dX1_isSo_34 : decode cX1_isSo 34 = .ok (.getfield 47, 3) := by decide +kernel
theorem dX1_isSo_37 : decode cX1_isSo 37 = .ok (.iconst 0, 1) := by decide +kernel
theorem dX1_isSo_38 : decode cX1_isSo 38 = .ok (.aload_n 0, 1) := by decide +kernel
theorem dX1_isSo_39 : decode cX1_isSo 39 = .ok (.getfield 9, 3) := by decide +kernel
theorem dX1_isSo_42 : decode cX1_isSo 42 = .ok (.invokestatic 129, 3) := by decide +kernel
theorem dX1_isSo_45 : decode cX1_isSo 45 = .ok (.ireturn, 1) := by decide +kernel
theorem dX1_isSo_46 : decode cX1_isSo 46 = .ok (.aload_n 0, 1) := by decide +kernel
theorem dX1_isSo_47 : decode cX1_isSo 47 = .ok (.getfield 24, 3) := by decide +kernel
theorem dX1_isSo_50 : decode cX1_isSo 50 = .ok (.iload_n 1, 1) := by decide +kernel
theorem dX1_isSo_51 : decode cX1_isSo 51 = .ok (.aload_n 0, 1) := by decide +kernel
theorem dX1_isSo_52 : decode cX1_isSo 52 = .ok (.getfield 47, 3) := by decide +kernel
theorem dX1_isSo_55 : decode cX1_isSo 55 = .ok (.iconst 0, 1) := by decide +kernel
theorem dX1_isSo_56 : decode cX1_isSo 56 = .ok (.aload_n 0, 1) := by decide +kernel
theorem dX1_isSo_57 : decode cX1_isSo 57 = .ok (.getfield 9, 3) := by decide +kernel
theorem dX1_isSo_60 : decode cX1_isSo 60 = .ok (.invokestatic 192, 3) := by decide +kernel
theorem dX1_isSo_63 : decode cX1_isSo 63 = .ok (.ireturn, 1) := by decide +kernel
theorem dX1_isSo_64 : decode cX1_isSo 64 = .ok (.aload_n 0, 1) := by decide +kernel
theorem dX1_isSo_65 : decode cX1_isSo 65 = .ok (.getfield 47, 3) := by decide +kernel
theorem dX1_isSo_68 : decode cX1_isSo 68 = .ok (.iconst 0, 1) := by decide +kernel
theorem dX1_isSo_69 : decode cX1_isSo 69 = .ok (.aload_n 0, 1) := by decide +kernel
theorem dX1_isSo_70 : decode cX1_isSo 70 = .ok (.getfield 24, 3) := by decide +kernel
theorem dX1_isSo_73 : decode cX1_isSo 73 = .ok (.iload_n 1, 1) := by decide +kernel
theorem dX1_isSo_74 : decode cX1_isSo 74 = .ok (.aload_n 0, 1) := by decide +kernel
theorem dX1_isSo_75 : decode cX1_isSo 75 = .ok (.getfield 9, 3) := by decide +kernel
theorem dX1_isSo_78 : decode cX1_isSo 78 = .ok (.invokestatic 192, 3) := by decide +kernel
theorem dX1_isSo_81 : decode cX1_isSo 81 = .ok (.ireturn, 1) := by decide +kernel
theorem dX1_isSo_82 : decode cX1_isSo 82 = .ok (.aload_n 0, 1) := by decide +kernel
theorem dX1_isSo_83 : decode cX1_isSo 83 = .ok (.getfield 24, 3) := by decide +kernel
theorem dX1_isSo_86 : decode cX1_isSo 86 = .ok (.iload_n 1, 1) := by decide +kernel
theorem dX1_isSo_87 : decode cX1_isSo 87 = .ok (.aload_n 0, 1) := by decide +kernel
theorem dX1_isSo_88 : decode cX1_isSo 88 = .ok (.getfield 47, 3) := by decide +kernel
theorem dX1_isSo_91 : decode cX1_isSo 91 = .ok (.iconst 0, 1) := by decide +kernel
theorem dX1_isSo_92 : decode cX1_isSo 92 = .ok (.aload_n 0, 1) := by decide +kernel
theorem dX1_isSo_93 : decode cX1_isSo 93 = .ok (.getfield 9, 3) := by decide +kernel
theorem dX1_isSo_96 : decode cX1_isSo 96 = .ok (.invokestatic 129, 3) := by decide +kernel
theorem dX1_isSo_99 : decode cX1_isSo 99 = .ok (.ifCond .ne 7, 3) := by decide +kernel
theorem dX1_isSo_102 : decode cX1_isSo 102 = .ok (.iconst 1, 1) := by decide +kernel
theorem dX1_isSo_103 : decode cX1_isSo 103 = .ok (.goto 4, 3) := by decide +kernel
theorem dX1_isSo_106 : decode cX1_isSo 106 = .ok (.iconst 0, 1) := by decide +kernel
theorem dX1_isSo_107 : decode cX1_isSo 107 = .ok (.ireturn, 1) := by decide +kernel
set_option maxRecDepth 20000 in
theorem ggX1_nearerThan_X1_isNearer : GoodIn wsX1_nearerThan wsX1_isNearer := goodIn_r _ [7, 8, 9, 10, 11, 12, 13, 14, 15, 16, 17, 18, 19, 20, 21, 22, 23, 24, 25, 26] (by decide +kernel) (by decide +kernel)
set_option maxRecDepth 20000 in
theorem gX1_nearerThan_X1_isNearer : GoodIn wsX1_nearerThan (wsV RX1 201 RX1 yX1_isNearer wsX1_isNearer) := goodIn_app (goodIn_of _ (by decide +kernel)) ggX1_nearerThan_X1_isNearer
theorem dX1_nearerThan_0 : decode cX1_nearerThan 0 = .ok (.iconst 0, 1) := by decide +kernel
theorem dX1_nearerThan_1 : decode cX1_nearerThan 1 = .ok (.istore_n 2, 1) := by decide +kernel
theorem dX1_nearerThan_2 : decode cX1_nearerThan 2 = .ok (.iconst 0, 1) := by decide +kernel
theorem dX1_nearerThan_3 : decode cX1_nearerThan 3 = .ok (.istore_n 3, 1) := by decide +kernel
theorem dX1_nearerThan_4 : decode cX1_nearerThan 4 = .ok (.iload_n 3, 1) := by decide +kernel
theorem dX1_nearerThan_5 : decode cX1_nearerThan 5 = .ok (.aload_n 0, 1) := by decide +kernel
theorem dX1_nearerThan_6 : decode cX1_nearerThan 6 = .ok (.getfield 60, 3) := by decide +kernel
theorem dX1_nearerThan_9 : decode cX1_nearerThan 9 = .ok (.if_icmp .ge 30, 3) := by decide +kernel
theorem dX1_nearerThan_12 : decode cX1_nearerThan 12 = .ok (.aload_n 0, 1) := by decide +kernel
theorem dX1_nearerThan_13 : decode cX1_nearerThan 13 = .ok (.getfield 15, 3) := by decide +kernel
theorem dX1_nearerThan_16 : decode cX1_nearerThan 16 = .ok (.iload_n 3, 1) := by decide +kernel
theorem dX1_nearerThan_17 : decode cX1_nearerThan 17 = .ok (.baload, 1) := by decide +kernel
theorem dX1_nearerThan_18 : decode cX1_nearerThan 18 = .ok (.ifCond .eq 15, 3) := by decide +kernel
theorem dX1_nearerThan_21 : decode cX1_nearerThan 21 = .ok (.aload_n 0, 1) := by decide +kernel
theorem dX1_nearerThan_22 : decode cX1_nearerThan 22 = .ok (.iload_n 3, 1) := by decide +kernel
theorem dX1_nearerThan_23 : decode cX1_nearerThan 23 = .ok (.iload_n 1, 1) := by decide +kernel
theorem dX1_nearerThan_24 : decode cX1_nearerThan 24 = .ok (.invokevirtual 201, 3) := by decide +kernel
theorem dX1_nearerThan_27 : decode cX1_nearerThan 27 = .ok (.ifCond .eq 6, 3) := by decide +kernel
theorem dX1_nearerThan_30 : decode cX1_nearerThan 30 = .ok (.iinc 2 1, 3) := by decide +kernel
theorem dX1_nearerThan_33 : decode cX1_nearerThan 33 = .ok (.iinc 3 1, 3) := by decide +kernel
theorem dX1_nearerThan_36 : decode cX1_nearerThan 36 = .ok (.goto (-32), 3) := by decide +kernel
theorem dX1_nearerThan_39 : decode cX1_nearerThan 39 = .ok (.iload_n 2, 1) := by decide +kernel
theorem dX1_nearerThan_40 : decode cX1_nearerThan 40 = .ok (.ireturn, 1) := by decide +kernel
theorem dX1_isNearer_0 : decode cX1_isNearer 0 = .ok (.aload_n 0, 1) := by decide +kernel
theorem dX1_isNearer_1 : decode cX1_isNearer 1 = .ok (.getfield 56, 3) := by decide +kernel
theorem dX1_isNearer_4 : decode cX1_isNearer 4 = .ok (.iload_n 1, 1) := by decide +kernel
theorem dX1_isNearer_5 : decode cX1_isNearer 5 = .ok (.laload, 1) := by decide +kernel
theorem dX1_isNearer_6 : decode cX1_isNearer 6 = .ok (.aload_n 0, 1) := by decide +kernel
theorem dX1_isNearer_7 : decode cX1_isNearer 7 = .ok (.getfield 56, 3) := by decide +kernel
theorem dX1_isNearer_10 : decode cX1_isNearer 10 = .ok (.iload_n 2, 1) := by decide +kernel
theorem dX1_isNearer_11 : decode cX1_isNearer 11 = .ok (.laload, 1) := by decide +kernel
theorem dX1_isNearer_12 : decode cX1_isNearer 12 = .ok (.lcmp, 1) := by decide +kernel
theorem dX1_isNearer_13 : decode cX1_isNearer 13 = .ok (.ifCond .lt 24, 3) := by decide +kernel
theorem dX1_isNearer_16 : decode cX1_isNearer 16 = .ok (.aload_n 0, 1) := by decide +kernel
theorem dX1_isNearer_17 : decode cX1_isNearer 17 = .ok (.getfield 56, 3) := by decide +kernel
theorem dX1_isNearer_20 : decode cX1_isNearer 20 = .ok (.iload_n 1, 1) := by decide +kernel
theorem dX1_isNearer_21 : decode cX1_isNearer 21 = .ok (.laload, 1) := by decide +kernel
theorem dX1_isNearer_22 : decode cX1_isNearer 22 = .ok (.aload_n 0, 1) := by decide +kernel
theorem dX1_isNearer_23 : decode cX1_isNearer 23 = .ok (.getfield 56, 3) := by decide +kernel
theorem dX1_isNearer_26 : decode cX1_isNearer 26 = .ok (.iload_n 2, 1) := by decide +kernel
theorem dX1_isNearer_27 : decode cX1_isNearer 27 = .ok (.laload, 1) := by decide +kernel
theorem dX1_isNearer_28 : decode cX1_isNearer 28 = .ok (.lcmp, 1) := by decide +kernel
theorem dX1_isNearer_29 : decode cX1_isNearer 29 = .ok (.ifCond .ne 12, 3) := by decide +kernel
theorem dX1_isNearer_32 : decode cX1_isNearer 32 = .ok (.iload_n 1, 1) := by decide +kernel
theorem dX1_isNearer_33 : decode cX1_isNearer 33 = .ok (.iload_n 2, 1) := by decide +kernel
theorem dX1_isNearer_34 : decode cX1_isNearer 34 = .ok (.if_icmp .ge 7, 3) := by decide +kernel
theorem dX1_isNearer_37 : decode cX1_isNearer 37 = .ok (.iconst 1, 1) := by decide +kernel
theorem dX1_isNearer_38 : decode cX1_isNearer 38 = .ok (.goto 4, 3) := by decide +kernel
theorem dX1_isNearer_41 : decode cX1_isNearer 41 = .ok (.iconst 0, 1) := by decide +kernel
theorem dX1_isNearer_42 : decode cX1_isNearer 42 = .ok (.ireturn, 1) := by decide +kernel
theorem dX2_init_0 : decode cX2_init 0 = .ok (.aload_n 0, 1) := by decide +kernel
theorem dX2_init_1 : decode cX2_init 1 = .ok (.invokespecial 1, 3) := by decide +kernel
theorem dX2_init_4 : decode cX2_init 4 = .ok (.aload_n 0, 1) := by decide +kernel
theorem dX2_init_5 : decode cX2_init 5 = .ok (.iconst 1, 1) := by decide +kernel
theorem dX2_init_6 : decode cX2_init 6 = .ok (.putfield 7, 3) := by decide +kernel
theorem dX2_init_9 : decode cX2_init 9 = .ok (.aload_n 0, 1) := by decide +kernel
theorem dX2_init_10 : decode cX2_init 10 = .ok (.bipush 64, 2) := by decide +kernel
theorem dX2_init_12 : decode cX2_init 12 = .ok (.newarray .boolean, 2) := by decide +kernel
theorem dX2_init_14 : decode cX2_init 14 = .ok (.putfield 13, 3) := by decide +kernel
theorem dX2_init_17 : decode cX2_init 17 = .ok (.aload_n 0, 1) := by decide +kernel
theorem dX2_init_18 : decode cX2_init 18 = .ok (.sipush 192, 3) := by decide +kernel
theorem dX2_init_21 : decode cX2_init 21 = .ok (.newarray .int, 2) := by decide +kernel
theorem dX2_init_23 : decode cX2_init 23 = .ok (.putfield 17, 3) := by decide +kernel
theorem dX2_init_26 : decode cX2_init 26 = .ok (.aload_n 0, 1) := by decide +kernel
theorem dX2_init_27 : decode cX2_init 27 = .ok (.sipush 192, 3) := by decide +kernel
theorem dX2_init_30 : decode cX2_init 30 = .ok (.newarray .int, 2) := by decide +kernel
theorem dX2_init_32 : decode cX2_init 32 = .ok (.putfield 21, 3) := by decide +kernel
theorem dX2_init_35 : decode cX2_init 35 = .ok (.aload_n 0, 1) := by decide +kernel
theorem dX2_init_36 : decode cX2_init 36 = .ok (.bipush 64, 2) := by decide +kernel
theorem dX2_init_38 : decode cX2_init 38 = .ok (.newarray .boolean, 2) := by decide +kernel
theorem dX2_init_40 : decode cX2_init 40 = .ok (.putfield 24, 3) := by decide +kernel
theorem dX2_init_43 : decode cX2_init 43 = .ok (.aload_n 0, 1) := by decide +kernel
theorem dX2_init_44 : decode cX2_init 44 = .ok (.bipush 64, 2) := by decide +kernel
theorem dX2_init_46 : decode cX2_init 46 = .ok (.newarray .int, 2) := by decide +kernel
theorem dX2_init_48 : decode cX2_init 48 = .ok (.putfield 27, 3) := by decide +kernel
theorem dX2_init_51 : decode cX2_init 51 = .ok (.aload_n 0, 1) := by decide +kernel
theorem dX2_init_52 : decode cX2_init 52 = .ok (.bipush 64, 2) := by decide +kernel
theorem dX2_init_54 : decode cX2_init 54 = .ok (.newarray .int, 2) := by decide +kernel
theorem dX2_init_56 : decode cX2_init 56 = .ok (.putfield 30, 3) := by decide +kernel
theorem dX2_init_59 : decode cX2_init 59 = .ok (.aload_n 0, 1) := by decide +kernel
theorem dX2_init_60 : decode cX2_init 60 = .ok (.bipush 64, 2) := by decide +kernel
theorem dX2_init_62 : decode cX2_init 62 = .ok (.newarray .int, 2) := by decide +kernel
theorem dX2_init_64 : decode cX2_init 64 = .ok (.putfield 33, 3) := by decide +kernel
theorem dX2_init_67 : decode cX2_init 67 = .ok (.aload_n 0, 1) := by decide +kernel
theorem dX2_init_68 : decode cX2_init 68 = .ok (.bipush 64, 2) := by decide +kernel
theorem dX2_init_70 : decode cX2_init 70 = .ok (.newarray .int, 2) := by decide +kernel
theorem dX2_init_72 : decode cX2_init 72 = .ok (.putfield 36, 3) := by decide +kernel
theorem dX2_init_75 : decode cX2_init 75 = .ok (.aload_n 0, 1) := by decide +kernel
theorem dX2_init_76 : decode cX2_init 76 = .ok (.bipush 64, 2) := by decide +kernel
theorem dX2_init_78 : decode cX2_init 78 = .ok (.newarray .int, 2) := by decide +kernel
theorem dX2_init_80 : decode cX2_init 80 = .ok (.putfield 39, 3) := by decide +kernel
theorem dX2_init_83 : decode cX2_init 83 = .ok (.aload_n 0, 1) := by decide +kernel
theorem dX2_init_84 : decode cX2_init 84 = .ok (.sipush 192, 3) := by decide +kernel
theorem dX2_init_87 : decode cX2_init 87 = .ok (.newarray .int, 2) := by decide +kernel
theorem dX2_init_89 : decode cX2_init 89 = .ok (.putfield 42, 3) := by decide +kernel
theorem dX2_init_92 : decode cX2_init 92 = .ok (.aload_n 0, 1) := by decide +kernel
theorem dX2_init_93 : decode cX2_init 93 = .ok (.sipush 192, 3) := by decide +kernel
theorem dX2_init_96 : decode cX2_init 96 = .ok (.newarray .int, 2) := by decide +kernel
theorem dX2_init_98 : decode cX2_init 98 = .ok (.putfield 45, 3) := by decide +kernel
theorem dX2_init_101 : decode cX2_init 101 = .ok (.aload_n 0, 1) := by decide +kernel
theorem dX2_init_102 : decode cX2_init 102 = .ok (.bipush 64, 2) := by decide +kernel
theorem dX2_init_104 : decode cX2_init 104 = .ok (.newarray .int, 2) := by decide +kernel
theorem dX2_init_106 : decode cX2_init 106 = .ok (.putfield 48, 3) := by decide +kernel
theorem dX2_init_109 : decode cX2_init 109 = .ok (.aload_n 0, 1) := by decide +kernel
theorem dX2_init_110 : decode cX2_init 110 = .ok (.bipush 64, 2) := by decide +kernel
theorem dX2_init_112 : decode cX2_init 112 = .ok (.newarray .int, 2) := by decide +kernel
theorem dX2_init_114 : decode cX2_init 114 = .ok (.putfield 51, 3) := by decide +kernel
theorem dX2_init_117 : decode cX2_init 117 = .ok (.aload_n 0, 1) := by decide +kernel
theorem dX2_init_118 : decode cX2_init 118 = .ok (.bipush 64, 2) := by decide +kernel
theorem dX2_init_120 : decode cX2_init 120 = .ok (.newarray .int, 2) := by decide +kernel
theorem dX2_init_122 : decode cX2_init 122 = .ok (.putfield 54, 3) := by decide +kernel
theorem dX2_init_125 : decode cX2_init 125 = .ok (.aload_n 0, 1) := by decide +kernel
theorem dX2_init_126 : decode cX2_init 126 = .ok (.bipush 64, 2) := by decide +kernel
theorem dX2_init_128 : decode cX2_init 128 = .ok (.newarray .int, 2) := by decide +kernel
theorem dX2_init_130 : decode cX2_init 130 = .ok (.putfield 57, 3) := by decide +kernel
theorem dX2_init_133 : decode cX2_init 133 = .ok (.aload_n 0, 1) := by decide +kernel
theorem dX2_init_134 : decode cX2_init 134 = .ok (.iconst 3, 1) := by decide +kernel
theorem dX2_init_135 : decode cX2_init 135 = .ok (.newarray .int, 2) := by decide +kernel
theorem dX2_init_137 : decode cX2_init 137 = .ok (.putfield 60, 3) := by decide +kernel
theorem dX2_init_140 : decode cX2_init 140 = .ok (.aload_n 0, 1) := by decide +kernel
theorem dX2_init_141 : decode cX2_init 141 = .ok (.iconst 3, 1) := by decide +kernel
theorem dX2_init_142 : decode cX2_init 142 = .ok (.newarray .int, 2) := by decide +kernel
theorem dX2_init_144 : decode cX2_init 144 = .ok (.putfield 63, 3) := by decide +kernel
theorem dX2_init_147 : decode cX2_init 147 = .ok (.aload_n 0, 1) := by decide +kernel
theorem dX2_init_148 : decode cX2_init 148 = .ok (.bipush 64, 2) := by decide +kernel
theorem dX2_init_150 : decode cX2_init 150 = .ok (.newarray .boolean, 2) := by decide +kernel
theorem dX2_init_152 : decode cX2_init 152 = .ok (.putfield 66, 3) := by decide +kernel
theorem dX2_init_155 : decode cX2_init 155 = .ok (.return_, 1) := by decide +kernel
theorem dX2_thrown_0 : decode cX2_thrown 0 = .ok (.aload_n 0, 1) := by decide +kernel
theorem dX2_thrown_1 : decode cX2_thrown 1 = .ok (.getfield 69, 3) := by decide +kernel
theorem dX2_thrown_4 : decode cX2_thrown 4 = .ok (.ireturn, 1) := by decide +kernel
theorem dX2_isThing_0 : decode cX2_isThing 0 = .ok (.iload_n 1, 1) := by decide +kernel
theorem dX2_isThing_1 : decode cX2_isThing 1 = .ok (.ifCond .lt 24, 3) := by decide +kernel
theorem dX2_isThing_4 : decode cX2_isThing 4 = .ok (.iload_n 1, 1) := by decide +kernel
theorem dX2_isThing_5 : decode cX2_isThing 5 = .ok (.aload_n 0, 1) := by decide +kernel
theorem dX2_isThing_6 : decode cX2_isThing 6 = .ok (.getfield 72, 3) := by decide +kernel
theorem dX2_isThing_9 : decode cX2_isThing 9 = .ok (.if_icmp .ge 16, 3) := by decide +kernel
theorem dX2_isThing_12 : decode cX2_isThing 12 = .ok (.aload_n 0, 1) := by decide +kernel
theorem dX2_isThing_13 : decode cX2_isThing 13 = .ok (.getfield 13, 3) := by decide +kernel
theorem dX2_isThing_16 : decode cX2_isThing 16 = .ok (.iload_n 1, 1) := by decide +kernel
theorem dX2_isThing_17 : decode cX2_isThing 17 = .ok (.baload, 1) := by decide +kernel
theorem dX2_isThing_18 : decode cX2_isThing 18 = .ok (.ifCond .eq 7, 3) := by decide +kernel
theorem dX2_isThing_21 : decode cX2_isThing 21 = .ok (.iconst 1, 1) := by decide +kernel
theorem dX2_isThing_22 : decode cX2_isThing 22 = .ok (.goto 4, 3) := by decide +kernel
theorem dX2_isThing_25 : decode cX2_isThing 25 = .ok (.iconst 0, 1) := by decide +kernel
theorem dX2_isThing_26 : decode cX2_isThing 26 = .ok (.ireturn, 1) := by decide +kernel
theorem dX2_isPlace_0 : decode cX2_isPlace 0 = .ok (.iload_n 0, 1) := by decide +kernel
theorem dX2_isPlace_1 : decode cX2_isPlace 1 = .ok (.ldc 75, 2) := by decide +kernel
theorem dX2_isPlace_3 : decode cX2_isPlace 3 = .ok (.if_icmp .lt 13, 3) := by decide +kernel
theorem dX2_isPlace_6 : decode cX2_isPlace 6 = .ok (.iload_n 0, 1) := by decide +kernel
theorem dX2_isPlace_7 : decode cX2_isPlace 7 = .ok (.ldc 76, 2) := by decide +kernel
theorem dX2_isPlace_9 : decode cX2_isPlace 9 = .ok (.if_icmp .gt 7, 3) := by decide +kernel
theorem dX2_isPlace_12 : decode cX2_isPlace 12 = .ok (.iconst 1, 1) := by decide +kernel
theorem dX2_isPlace_13 : decode cX2_isPlace 13 = .ok (.goto 4, 3) := by decide +kernel
theorem dX2_isPlace_16 : decode cX2_isPlace 16 = .ok (.iconst 0, 1) := by decide +kernel
theorem dX2_isPlace_17 : decode cX2_isPlace 17 = .ok (.ireturn, 1) := by decide +kernel
theorem dX2_dimensions_0 : decode cX2_dimensions 0 = .ok (.aload_n 0, 1) := by decide +kernel
theorem dX2_dimensions_1 : decode cX2_dimensions 1 = .ok (.iconst 0, 1) := by decide +kernel
theorem dX2_dimensions_2 : decode cX2_dimensions 2 = .ok (.putfield 69, 3) := by decide +kernel
theorem dX2_dimensions_5 : decode cX2_dimensions 5 = .ok (.iload_n 1, 1) := by decide +kernel
theorem dX2_dimensions_6 : decode cX2_dimensions 6 = .ok (.iconst 1, 1) := by decide +kernel
theorem dX2_dimensions_7 : decode cX2_dimensions 7 = .ok (.if_icmp .lt 8, 3) := by decide +kernel
theorem dX2_dimensions_10 : decode cX2_dimensions 10 = .ok (.iload_n 1, 1) := by decide +kernel
theorem dX2_dimensions_11 : decode cX2_dimensions 11 = .ok (.iconst 3, 1) := by decide +kernel
theorem dX2_dimensions_12 : decode cX2_dimensions 12 = .ok (.if_icmp .le 6, 3) := by decide +kernel
theorem dX2_dimensions_15 : decode cX2_dimensions 15 = .ok (.bipush (-2), 2) := by decide +kernel
theorem dX2_dimensions_17 : decode cX2_dimensions 17 = .ok (.ireturn, 1) := by decide +kernel
theorem dX2_dimensions_18 : decode cX2_dimensions 18 = .ok (.aload_n 0, 1) := by decide +kernel
theorem dX2_dimensions_19 : decode cX2_dimensions 19 = .ok (.getfield 7, 3) := by decide +kernel
theorem dX2_dimensions_22 : decode cX2_dimensions 22 = .ok (.istore_n 2, 1) := by decide +kernel
theorem dX2_dimensions_23 : decode cX2_dimensions 23 = .ok (.aload_n 0, 1) := by decide +kernel
theorem dX2_dimensions_24 : decode cX2_dimensions 24 = .ok (.iload_n 1, 1) := by decide +kernel
theorem dX2_dimensions_25 : decode cX2_dimensions 25 = .ok (.putfield 7, 3) := by decide +kernel
theorem dX2_dimensions_28 : decode cX2_dimensions 28 = .ok (.aload_n 0, 1) := by decide +kernel
theorem dX2_dimensions_29 : decode cX2_dimensions 29 = .ok (.iconst 0, 1) := by decide +kernel
theorem dX2_dimensions_30 : decode cX2_dimensions 30 = .ok (.putfield 72, 3) := by decide +kernel
theorem dX2_dimensions_33 : decode cX2_dimensions 33 = .ok (.aload_n 0, 1) := by decide +kernel
theorem dX2_dimensions_34 : decode cX2_dimensions 34 = .ok (.iconst 0, 1) := by decide +kernel
theorem dX2_dimensions_35 : decode cX2_dimensions 35 = .ok (.putfield 77, 3) := by decide +kernel
theorem dX2_dimensions_38 : decode cX2_dimensions 38 = .ok (.aload_n 0, 1) := by decide +kernel
theorem dX2_dimensions_39 : decode cX2_dimensions 39 = .ok (.iconst 0, 1) := by decide +kernel
theorem dX2_dimensions_40 : decode cX2_dimensions 40 = .ok (.putfield 80, 3) := by decide +kernel
theorem dX2_dimensions_43 : decode cX2_dimensions 43 = .ok (.aload_n 0, 1) := by decide +kernel
theorem dX2_dimensions_44 : decode cX2_dimensions 44 = .ok (.iconst 0, 1) := by decide +kernel
theorem dX2_dimensions_45 : decode cX2_dimensions 45 = .ok (.putfield 83, 3) := by decide +kernel
theorem dX2_dimensions_48 : decode cX2_dimensions 48 = .ok (.aload_n 0, 1) := by decide +kernel
theorem dX2_dimensions_49 : decode cX2_dimensions 49 = .ok (.iconst 0, 1) := by decide +kernel
theorem dX2_dimensions_50 : decode cX2_dimensions 50 = .ok (.putfield 86, 3) := by decide +kernel
theorem dX2_dimensions_53 : decode cX2_dimensions 53 = .ok (.aload_n 0, 1) := by decide +kernel
theorem dX2_dimensions_54 : decode cX2_dimensions 54 = .ok (.iconst 0, 1) := by decide +kernel
theorem dX2_dimensions_55 : decode cX2_dimensions 55 = .ok (.putfield 89, 3) := by decide +kernel
theorem dX2_dimensions_58 : decode cX2_dimensions 58 = .ok (.iconst 0, 1) := by decide +kernel
theorem dX2_dimensions_59 : decode cX2_dimensions 59 = .ok (.istore_n 3, 1) := by decide +kernel
theorem dX2_dimensions_60 : decode cX2_dimensions 60 = .ok (.iload_n 3, 1) := by decide +kernel
theorem dX2_dimensions_61 : decode cX2_dimensions 61 = .ok (.bipush 64, 2) := by decide +kernel
theorem dX2_dimensions_63 : decode cX2_dimensions 63 = .ok (.if_icmp .ge 30, 3) := by decide +kernel
theorem dX2_dimensions_66 : decode cX2_dimensions 66 = .ok (.aload_n 0, 1) := by decide +kernel
theorem dX2_dimensions_67 : decode cX2_dimensions 67 = .ok (.getfield 66, 3) := by decide +kernel
theorem dX2_dimensions_70 : decode cX2_dimensions 70 = .ok (.iload_n 3, 1) := by decide +kernel
theorem dX2_dimensions_71 : decode cX2_dimensions 71 = .ok (.iconst 0, 1) := by decide +kernel
theorem dX2_dimensions_72 : decode cX2_dimensions 72 = .ok (.bastore, 1) := by decide +kernel
theorem dX2_dimensions_73 : decode cX2_dimensions 73 = .ok (.aload_n 0, 1) := by decide +kernel
theorem dX2_dimensions_74 : decode cX2_dimensions 74 = .ok (.getfield 24, 3) := by decide +kernel
theorem dX2_dimensions_77 : decode cX2_dimensions 77 = .ok (.iload_n 3, 1) := by decide +kernel
theorem dX2_dimensions_78 : decode cX2_dimensions 78 = .ok (.iconst 0, 1) := by decide +kernel
theorem dX2_dimensions_79 : decode cX2_dimensions 79 = .ok (.bastore, 1) := by decide +kernel
theorem dX2_dimensions_80 : decode cX2_dimensions 80 = .ok (.aload_n 0, 1) := by decide +kernel
theorem dX2_dimensions_81 : decode cX2_dimensions 81 = .ok (.getfield 13, 3) := by decide +kernel
theorem dX2_dimensions_84 : decode cX2_dimensions 84 = .ok (.iload_n 3, 1) := by decide +kernel
theorem dX2_dimensions_85 : decode cX2_dimensions 85 = .ok (.iconst 0, 1) := by decide +kernel
theorem dX2_dimensions_86 : decode cX2_dimensions 86 = .ok (.bastore, 1) := by decide +kernel
theorem dX2_dimensions_87 : decode cX2_dimensions 87 = .ok (.iinc 3 1, 3) := by decide +kernel
theorem dX2_dimensions_90 : decode cX2_dimensions 90 = .ok (.goto (-30), 3) := by decide +kernel
theorem dX2_dimensions_93 : decode cX2_dimensions 93 = .ok (.iload_n 2, 1) := by decide +kernel
theorem dX2_dimensions_94 : decode cX2_dimensions 94 = .ok (.ireturn, 1) := by decide +kernel
set_option maxRecDepth 20000 in
theorem ggX2_tells_X2_isPlace : GoodIn wsX2_tells wsX2_isPlace := goodIn_r _ [7, 8, 9] (by decide +kernel) (by decide +kernel)
set_option maxRecDepth 20000 in
theorem gX2_tells_X2_isPlace : GoodIn wsX2_tells (va_wsS RX2 92 yX2_isPlace wsX2_isPlace) := goodIn_app (goodIn_of _ (by decide +kernel)) ggX2_tells_X2_isPlace
theorem dX2_tells_0 : decode cX2_tells 0 = .ok (.iconst 1, 1) := by decide +kernel
theorem dX2_tells_1 : decode cX2_tells 1 = .ok (.istore 7, 2) := by decide +kernel
theorem dX2_tells_3 : decode cX2_tells 3 = .ok (.iconst 0, 1) := by decide +kernel
theorem dX2_tells_4 : decode cX2_tells 4 = .ok (.istore 8, 2) := by decide +kernel
theorem dX2_tells_6 : decode cX2_tells 6 = .ok (.iload 8, 2) := by decide +kernel
theorem dX2_tells_8 : decode cX2_tells 8 = .ok (.aload_n 0, 1) := by decide +kernel
theorem dX2_tells_9 : decode cX2_tells 9 = .ok (.getfield 7, 3) := by decide +kernel
theorem dX2_tells_12 : decode cX2_tells 12 = .ok (.if_icmp .ge 91, 3) := by decide +kernel
theorem dX2_tells_15 : decode cX2_tells 15 = .ok (.iload 8, 2) := by decide +kernel
theorem dX2_tells_17 : decode cX2_tells 17 = .ok (.ifCond .ne 7, 3) := by decide +kernel
theorem dX2_tells_20 : decode cX2_tells 20 = .ok (.iload_n 1, 1) := by decide +kernel
theorem dX2_tells_21 : decode cX2_tells 21 = .ok (.goto 15, 3) := by decide +kernel
theorem dX2_tells_24 : decode cX2_tells 24 = .ok (.iload 8, 2) := by decide +kernel
theorem dX2_tells_26 : decode cX2_tells 26 = .ok (.iconst 1, 1) := by decide +kernel
theorem dX2_tells_27 : decode cX2_tells 27 = .ok (.if_icmp .ne 7, 3) := by decide +kernel
theorem dX2_tells_30 : decode cX2_tells 30 = .ok (.iload_n 3, 1) := by decide +kernel
theorem dX2_tells_31 : decode cX2_tells 31 = .ok (.goto 5, 3) := by decide +kernel
theorem dX2_tells_34 : decode cX2_tells 34 = .ok (.iload 5, 2) := by decide +kernel
theorem dX2_tells_36 : decode cX2_tells 36 = .ok (.istore 9, 2) := by decide +kernel
theorem dX2_tells_38 : decode cX2_tells 38 = .ok (.iload 8, 2) := by decide +kernel
theorem dX2_tells_40 : decode cX2_tells 40 = .ok (.ifCond .ne 7, 3) := by decide +kernel
theorem dX2_tells_43 : decode cX2_tells 43 = .ok (.iload_n 2, 1) := by decide +kernel
theorem dX2_tells_44 : decode cX2_tells 44 = .ok (.goto 16, 3) := by decide +kernel
theorem dX2_tells_47 : decode cX2_tells 47 = .ok (.iload 8, 2) := by decide +kernel
theorem dX2_tells_49 : decode cX2_tells 49 = .ok (.iconst 1, 1) := by decide +kernel
theorem dX2_tells_50 : decode cX2_tells 50 = .ok (.if_icmp .ne 8, 3) := by decide +kernel
theorem dX2_tells_53 : decode cX2_tells 53 = .ok (.iload 4, 2) := by decide +kernel
theorem dX2_tells_55 : decode cX2_tells 55 = .ok (.goto 5, 3) := by decide +kernel
theorem dX2_tells_58 : decode cX2_tells 58 = .ok (.iload 6, 2) := by decide +kernel
theorem dX2_tells_60 : decode cX2_tells 60 = .ok (.istore 10, 2) := by decide +kernel
theorem dX2_tells_62 : decode cX2_tells 62 = .ok (.iload 7, 2) := by decide +kernel
theorem dX2_tells_64 : decode cX2_tells 64 = .ok (.ifCond .eq 30, 3) := by decide +kernel
theorem dX2_tells_67 : decode cX2_tells 67 = .ok (.iload 9, 2) := by decide +kernel
theorem dX2_tells_69 : decode cX2_tells 69 = .ok (.invokestatic 92, 3) := by decide +kernel
theorem dX2_tells_72 : decode cX2_tells 72 = .ok (.ifCond .eq 22, 3) := by decide +kernel
theorem dX2_tells_75 : decode cX2_tells 75 = .ok (.iload 10, 2) := by decide +kernel
theorem dX2_tells_77 : decode cX2_tells 77 = .ok (.invokestatic 92, 3) := by decide +kernel
theorem dX2_tells_80 : decode cX2_tells 80 = .ok (.ifCond .eq 14, 3) := by decide +kernel
theorem dX2_tells_83 : decode cX2_tells 83 = .ok (.iload 9, 2) := by decide +kernel
theorem dX2_tells_85 : decode cX2_tells 85 = .ok (.iload 10, 2) := by decide +kernel
theorem dX2_tells_87 : decode cX2_tells 87 = .ok (.if_icmp .gt 7, 3) := by decide +kernel
theorem dX2_tells_90 : decode cX2_tells 90 = .ok (.iconst 1, 1) := by decide +kernel
theorem dX2_tells_91 : decode cX2_tells 91 = .ok (.goto 4, 3) := by decide +kernel
theorem dX2_tells_94 : decode cX2_tells 94 = .ok (.iconst 0, 1) := by decide +kernel
theorem dX2_tells_95 : decode cX2_tells 95 = .ok (.istore 7, 2) := by decide +kernel
theorem dX2_tells_97 : decode cX2_tells 97 = .ok (.iinc 8 1, 3) := by decide +kernel
theorem dX2_tells_100 : decode cX2_tells 100 = .ok (.goto (-94), 3) := by decide +kernel
theorem dX2_tells_103 : decode cX2_tells 103 = .ok (.iconst 0, 1) := by decide +kernel
theorem dX2_tells_104 : decode cX2_tells 104 = .ok (.istore 8, 2) := by decide +kernel
theorem dX2_tells_106 : decode cX2_tells 106 = .ok (.iload 8, 2) := by decide +kernel
theorem dX2_tells_108 : decode cX2_tells 108 = .ok (.aload_n 0, 1) := by decide +kernel
theorem dX2_tells_109 : decode cX2_tells 109 = .ok (.getfield 7, 3) := by decide +kernel
theorem dX2_tells_112 : decode cX2_tells 112 = .ok (.if_icmp .ge 71, 3) := by decide +kernel
theorem dX2_tells_115 : decode cX2_tells 115 = .ok (.iload 7, 2) := by decide +kernel
theorem dX2_tells_117 : decode cX2_tells 117 = .ok (.ifCond .eq 66, 3) := by decide +kernel
theorem dX2_tells_120 : decode cX2_tells 120 = .ok (.aload_n 0, 1) := by decide +kernel
theorem dX2_tells_121 : decode cX2_tells 121 = .ok (.getfield 60, 3) := by decide +kernel
theorem dX2_tells_124 : decode cX2_tells 124 = .ok (.iload 8, 2) := by decide +kernel
theorem dX2_tells_126 : decode cX2_tells 126 = .ok (.iload 8, 2) := by decide +kernel
theorem dX2_tells_128 : decode cX2_tells 128 = .ok (.ifCond .ne 7, 3) := by decide +kernel
theorem dX2_tells_131 : decode cX2_tells 131 = .ok (.iload_n 1, 1) := by decide +kernel
theorem dX2_tells_132 : decode cX2_tells 132 = .ok (.goto 15, 3) := by decide +kernel
theorem dX2_tells_135 : decode cX2_tells 135 = .ok (.iload 8, 2) := by decide +kernel
theorem dX2_tells_137 : decode cX2_tells 137 = .ok (.iconst 1, 1) := by decide +kernel
theorem dX2_tells_138 : decode cX2_tells 138 = .ok (.if_icmp .ne 7, 3) := by decide +kernel
theorem dX2_tells_141 : decode cX2_tells 141 = .ok (.iload_n 3, 1) := by decide +kernel
theorem dX2_tells_142 : decode cX2_tells 142 = .ok (.goto 5, 3) := by decide +kernel
theorem dX2_tells_145 : decode cX2_tells 145 = .ok (.iload 5, 2) := by decide +kernel
theorem dX2_tells_147 : decode cX2_tells 147 = .ok (.iastore, 1) := by decide +kernel
theorem dX2_tells_148 : decode cX2_tells 148 = .ok (.aload_n 0, 1) := by decide +kernel
theorem dX2_tells_149 : decode cX2_tells 149 = .ok (.getfield 63, 3) := by decide +kernel
theorem dX2_tells_152 : decode cX2_tells 152 = .ok (.iload 8, 2) := by decide +kernel
theorem dX2_tells_154 : decode cX2_tells 154 = .ok (.iload 8, 2) := by decide +kernel
theorem dX2_tells_156 : decode cX2_tells 156 = .ok (.ifCond .ne 7, 3) := by decide +kernel
theorem dX2_tells_159 : decode cX2_tells 159 = .ok (.iload_n 2, 1) := by decide +kernel
theorem dX2_tells_160 : decode cX2_tells 160 = .ok (.goto 16, 3) := by decide +kernel
theorem dX2_tells_163 : decode cX2_tells 163 = .ok (.iload 8, 2) := by decide +kernel
theorem dX2_tells_165 : decode cX2_tells 165 = .ok (.iconst 1, 1) := by decide +kernel
theorem dX2_tells_166 : decode cX2_tells 166 = .ok (.if_icmp .ne 8, 3) := by decide +kernel
theorem dX2_tells_169 : decode cX2_tells 169 = .ok (.iload 4, 2) := by decide +kernel
theorem dX2_tells_171 : decode cX2_tells 171 = .ok (.goto 5, 3) := by decide +kernel
theorem dX2_tells_174 : decode cX2_tells 174 = .ok (.iload 6, 2) := by decide +kernel
theorem dX2_tells_176 : decode cX2_tells 176 = .ok (.iastore, 1) := by decide +kernel
theorem dX2_tells_177 : decode cX2_tells 177 = .ok (.iinc 8 1, 3) := by decide +kernel
theorem dX2_tells_180 : decode cX2_tells 180 = .ok (.goto (-74), 3) := by decide +kernel
theorem dX2_tells_183 : decode cX2_tells 183 = .ok (.iload 7, 2) := by decide +kernel
theorem dX2_tells_185 : decode cX2_tells 185 = .ok (.ireturn, 1) := by decide +kernel
set_option maxRecDepth 20000 in
theorem ggX2_thing_X2_tells : GoodIn wsX2_thing wsX2_tells := goodIn_r _ [14, 3, 5, 7, 15, 16, 13, 17, 18, 19, 20, 21, 22, 23, 24, 25, 26, 27, 28, 29, 30, 31, 32, 33, 34, 35, 36, 37, 38, 39, 40, 41, 42, 43, 44, 45, 46] (by decide +kernel) (by decide +kernel)
set_option maxRecDepth 20000 in
theorem gX2_thing_X2_tells : GoodIn wsX2_thing (wsV RX2 96 RX2 yX2_tells wsX2_tells) := goodIn_app (goodIn_of _ (by decide +kernel)) ggX2_thing_X2_tells
theorem dX2_thing_0 : decode cX2_thing 0 = .ok (.aload_n 0, 1) := by decide +kernel
theorem dX2_thing_1 : decode cX2_thing 1 = .ok (.iconst 0, 1) := by decide +kernel
theorem dX2_thing_2 : decode cX2_thing 2 = .ok (.putfield 69, 3) := by decide +kernel
theorem dX2_thing_5 : decode cX2_thing 5 = .ok (.aload_n 0, 1) := by decide +kernel
theorem dX2_thing_6 : decode cX2_thing 6 = .ok (.iload_n 1, 1) := by decide +kernel
theorem dX2_thing_7 : decode cX2_thing 7 = .ok (.iload_n 2, 1) := by decide +kernel
theorem dX2_thing_8 : decode cX2_thing 8 = .ok (.iload_n 3, 1) := by decide +kernel
theorem dX2_thing_9 : decode cX2_thing 9 = .ok (.iload 4, 2) := by decide +kernel
theorem dX2_thing_11 : decode cX2_thing 11 = .ok (.iload 5, 2) := by decide +kernel
theorem dX2_thing_13 : decode cX2_thing 13 = .ok (.iload 6, 2) := by decide +kernel
theorem dX2_thing_15 : decode cX2_thing 15 = .ok (.invokevirtual 96, 3) := by decide +kernel
theorem dX2_thing_18 : decode cX2_thing 18 = .ok (.ifCond .ne 6, 3) := by decide +kernel
theorem dX2_thing_21 : decode cX2_thing 21 = .ok (.bipush (-2), 2) := by decide +kernel
theorem dX2_thing_23 : decode cX2_thing 23 = .ok (.ireturn, 1) := by decide +kernel
theorem dX2_thing_24 : decode cX2_thing 24 = .ok (.aload_n 0, 1) := by decide +kernel
theorem dX2_thing_25 : decode cX2_thing 25 = .ok (.getfield 72, 3) := by decide +kernel
theorem dX2_thing_28 : decode cX2_thing 28 = .ok (.bipush 64, 2) := by decide +kernel
theorem dX2_thing_30 : decode cX2_thing 30 = .ok (.if_icmp .ne 6, 3) := by decide +kernel
theorem dX2_thing_33 : decode cX2_thing 33 = .ok (.bipush (-4), 2) := by decide +kernel
theorem dX2_thing_35 : decode cX2_thing 35 = .ok (.ireturn, 1) := by decide +kernel
theorem dX2_thing_36 : decode cX2_thing 36 = .ok (.iconst 0, 1) := by decide +kernel
theorem dX2_thing_37 : decode cX2_thing 37 = .ok (.istore 7, 2) := by decide +kernel
theorem dX2_thing_39 : decode cX2_thing 39 = .ok (.iload 7, 2) := by decide +kernel
theorem dX2_thing_41 : decode cX2_thing 41 = .ok (.aload_n 0, 1) := by decide +kernel
theorem dX2_thing_42 : decode cX2_thing 42 = .ok (.getfield 7, 3) := by decide +kernel
theorem dX2_thing_45 : decode cX2_thing 45 = .ok (.if_icmp .ge 51, 3) := by decide +kernel
theorem dX2_thing_48 : decode cX2_thing 48 = .ok (.aload_n 0, 1) := by decide +kernel
theorem dX2_thing_49 : decode cX2_thing 49 = .ok (.getfield 17, 3) := by decide +kernel
theorem dX2_thing_52 : decode cX2_thing 52 = .ok (.iconst 3, 1) := by decide +kernel
theorem dX2_thing_53 : decode cX2_thing 53 = .ok (.aload_n 0, 1) := by decide +kernel
theorem dX2_thing_54 : decode cX2_thing 54 = .ok (.getfield 72, 3) := by decide +kernel
theorem dX2_thing_57 : decode cX2_thing 57 = .ok (.imul, 1) := by decide +kernel
theorem dX2_thing_58 : decode cX2_thing 58 = .ok (.iload 7, 2) := by decide +kernel
theorem dX2_thing_60 : decode cX2_thing 60 = .ok (.iadd, 1) := by decide +kernel
theorem dX2_thing_61 : decode cX2_thing 61 = .ok (.aload_n 0, 1) := by decide +kernel
theorem dX2_thing_62 : decode cX2_thing 62 = .ok (.getfield 60, 3) := by decide +kernel
theorem dX2_thing_65 : decode cX2_thing 65 = .ok (.iload 7, 2) := by decide +kernel
theorem dX2_thing_67 : decode cX2_thing 67 = .ok (.iaload, 1) := by decide +kernel
theorem dX2_thing_68 : decode cX2_thing 68 = .ok (.iastore, 1) := by decide +kernel
theorem dX2_thing_69 : decode cX2_thing 69 = .ok (.aload_n 0, 1) := by decide +kernel
theorem dX2_thing_70 : decode cX2_thing 70 = .ok (.getfield 21, 3) := by decide +kernel
theorem dX2_thing_73 : decode cX2_thing 73 = .ok (.iconst 3, 1) := by decide +kernel
theorem dX2_thing_74 : decode cX2_thing 74 = .ok (.aload_n 0, 1) := by decide +kernel
theorem dX2_thing_75 : decode cX2_thing 75 = .ok (.getfield 72, 3) := by decide +kernel
theorem dX2_thing_78 : decode cX2_thing 78 = .ok (.imul, 1) := by decide +kernel
theorem dX2_thing_79 : decode cX2_thing 79 = .ok (.iload 7, 2) := by decide +kernel
theorem dX2_thing_81 : decode cX2_thing 81 = .ok (.iadd, 1) := by decide +kernel
theorem dX2_thing_82 : decode cX2_thing 82 = .ok (.aload_n 0, 1) := by decide +kernel
theorem dX2_thing_83 : decode cX2_thing 83 = .ok (.getfield 63, 3) := by decide +kernel
theorem dX2_thing_86 : decode cX2_thing 86 = .ok (.iload 7, 2) := by decide +kernel
theorem dX2_thing_88 : decode cX2_thing 88 = .ok (.iaload, 1) := by decide +kernel
theorem dX2_thing_89 : decode cX2_thing 89 = .ok (.iastore, 1) := by decide +kernel
theorem dX2_thing_90 : decode cX2_thing 90 = .ok (.iinc 7 1, 3) := by decide +kernel
theorem dX2_thing_93 : decode cX2_thing 93 = .ok (.goto (-54), 3) := by decide +kernel
theorem dX2_thing_96 : decode cX2_thing 96 = .ok (.aload_n 0, 1) := by decide +kernel
theorem dX2_thing_97 : decode cX2_thing 97 = .ok (.getfield 13, 3) := by decide +kernel
theorem dX2_thing_100 : decode cX2_thing 100 = .ok (.aload_n 0, 1) := by decide +kernel
theorem dX2_thing_101 : decode cX2_thing 101 = .ok (.getfield 72, 3) := by decide +kernel
theorem dX2_thing_104 : decode cX2_thing 104 = .ok (.iconst 1, 1) := by decide +kernel
theorem dX2_thing_105 : decode cX2_thing 105 = .ok (.bastore, 1) := by decide +kernel
theorem dX2_thing_106 : decode cX2_thing 106 = .ok (.aload_n 0, 1) := by decide +kernel
theorem dX2_thing_107 : decode cX2_thing 107 = .ok (.getfield 24, 3) := by decide +kernel
theorem dX2_thing_110 : decode cX2_thing 110 = .ok (.aload_n 0, 1) := by decide +kernel
theorem dX2_thing_111 : decode cX2_thing 111 = .ok (.getfield 72, 3) := by decide +kernel
theorem dX2_thing_114 : decode cX2_thing 114 = .ok (.iconst 0, 1) := by decide +kernel
theorem dX2_thing_115 : decode cX2_thing 115 = .ok (.bastore, 1) := by decide +kernel
theorem dX2_thing_116 : decode cX2_thing 116 = .ok (.aload_n 0, 1) := by decide +kernel
theorem dX2_thing_117 : decode cX2_thing 117 = .ok (.dup, 1) := by decide +kernel
theorem dX2_thing_118 : decode cX2_thing 118 = .ok (.getfield 72, 3) := by decide +kernel
theorem dX2_thing_121 : decode cX2_thing 121 = .ok (.iconst 1, 1) := by decide +kernel
theorem dX2_thing_122 : decode cX2_thing 122 = .ok (.iadd, 1) := by decide +kernel
theorem dX2_thing_123 : decode cX2_thing 123 = .ok (.putfield 72, 3) := by decide +kernel
theorem dX2_thing_126 : decode cX2_thing 126 = .ok (.aload_n 0, 1) := by decide +kernel
theorem dX2_thing_127 : decode cX2_thing 127 = .ok (.getfield 72, 3) := by decide +kernel
theorem dX2_thing_130 : decode cX2_thing 130 = .ok (.iconst 1, 1) := by decide +kernel
theorem dX2_thing_131 : decode cX2_thing 131 = .ok (.isub, 1) := by decide +kernel
theorem dX2_thing_132 : decode cX2_thing 132 = .ok (.ireturn, 1) := by decide +kernel
theorem dX2_count_0 : decode cX2_count 0 = .ok (.aload_n 0, 1) := by decide +kernel
theorem dX2_count_1 : decode cX2_count 1 = .ok (.iconst 0, 1) := by decide +kernel
theorem dX2_count_2 : decode cX2_count 2 = .ok (.putfield 69, 3) := by decide +kernel
theorem dX2_count_5 : decode cX2_count 5 = .ok (.iconst 0, 1) := by decide +kernel
theorem dX2_count_6 : decode cX2_count 6 = .ok (.istore_n 1, 1) := by decide +kernel
theorem dX2_count_7 : decode cX2_count 7 = .ok (.iconst 0, 1) := by decide +kernel
theorem dX2_count_8 : decode cX2_count 8 = .ok (.istore_n 2, 1) := by decide +kernel
theorem dX2_count_9 : decode cX2_count 9 = .ok (.iload_n 2, 1) := by decide +kernel
theorem dX2_count_10 : decode cX2_count 10 = .ok (.aload_n 0, 1) := by decide +kernel
theorem dX2_count_11 : decode cX2_count 11 = .ok (.getfield 72, 3) := by decide +kernel
theorem dX2_count_14 : decode cX2_count 14 = .ok (.if_icmp .ge 26, 3) := by decide +kernel
theorem dX2_count_17 : decode cX2_count 17 = .ok (.iload_n 1, 1) := by decide +kernel
theorem dX2_count_18 : decode cX2_count 18 = .ok (.aload_n 0, 1) := by decide +kernel
theorem dX2_count_19 : decode cX2_count 19 = .ok (.getfield 13, 3) := by decide +kernel
theorem dX2_count_22 : decode cX2_count 22 = .ok (.iload_n 2, 1) := by decide +kernel
theorem dX2_count_23 : decode cX2_count 23 = .ok (.baload, 1) := by decide +kernel
theorem dX2_count_24 : decode cX2_count 24 = .ok (.ifCond .eq 7, 3) := by decide +kernel
theorem dX2_count_27 : decode cX2_count 27 = .ok (.iconst 1, 1) := by decide +kernel
theorem dX2_count_28 : decode cX2_count 28 = .ok (.goto 4, 3) := by decide +kernel
theorem dX2_count_31 : decode cX2_count 31 = .ok (.iconst 0, 1) := by decide +kernel
theorem dX2_count_32 : decode cX2_count 32 = .ok (.iadd, 1) := by decide +kernel
theorem dX2_count_33 : decode cX2_count 33 = .ok (.istore_n 1, 1) := by decide +kernel
theorem dX2_count_34 : decode cX2_count 34 = .ok (.iinc 2 1, 3) := by decide +kernel
theorem dX2_count_37 : decode cX2_count 37 = .ok (.goto (-28), 3) := by decide +kernel
theorem dX2_count_40 : decode cX2_count 40 = .ok (.iload_n 1, 1) := by decide +kernel
theorem dX2_count_41 : decode cX2_count 41 = .ok (.ireturn, 1) := by decide +kernel
set_option maxRecDepth 20000 in
theorem ggX2_drop_X2_isThing : GoodIn wsX2_drop wsX2_isThing := goodIn_r _ [7, 8, 2, 13, 14, 15, 16, 17, 18, 19, 20, 21, 22, 23, 24, 25, 26, 27, 28, 29, 30, 31, 32, 33, 34, 35, 36, 37, 38, 39] (by decide +kernel) (by decide +kernel)
set_option maxRecDepth 20000 in
theorem gX2_drop_X2_isThing : GoodIn wsX2_drop (wsV RX2 100 RX2 yX2_isThing wsX2_isThing) := goodIn_app (goodIn_of _ (by decide +kernel)) ggX2_drop_X2_isThing
set_option maxRecDepth 20000 in
theorem ggX2_drop_X2_count : GoodIn wsX2_drop wsX2_count := goodIn_r _ [12, 1, 8, 2, 13, 14, 15, 16, 17, 18, 19, 20, 21, 22, 23, 24, 25, 26, 27, 28, 29, 30, 31, 32, 33, 34, 35, 36, 37, 38, 39] (by decide +kernel) (by decide +kernel)
set_option maxRecDepth 20000 in
theorem gX2_drop_X2_count : GoodIn wsX2_drop (wsV RX2 103 RX2 yX2_count wsX2_count) := goodIn_app (goodIn_of _ (by decide +kernel)) ggX2_drop_X2_count
theorem dX2_drop_0 : decode cX2_drop 0 = .ok (.aload_n 0, 1) := by decide +kernel
theorem dX2_drop_1 : decode cX2_drop 1 = .ok (.iconst 0, 1) := by decide +kernel
theorem dX2_drop_2 : decode cX2_drop 2 = .ok (.putfield 69, 3) := by decide +kernel
theorem dX2_drop_5 : decode cX2_drop 5 = .ok (.aload_n 0, 1) := by decide +kernel
theorem dX2_drop_6 : decode cX2_drop 6 = .ok (.iload_n 1, 1) := by decide +kernel
theorem dX2_drop_7 : decode cX2_drop 7 = .ok (.invokevirtual 100, 3) := by decide +kernel
theorem dX2_drop_10 : decode cX2_drop 10 = .ok (.ifCond .ne 5, 3) := by decide +kernel
theorem dX2_drop_13 : decode cX2_drop 13 = .ok (.iconst (-1), 1) := by decide +kernel
theorem dX2_drop_14 : decode cX2_drop 14 = .ok (.ireturn, 1) := by decide +kernel
theorem dX2_drop_15 : decode cX2_drop 15 = .ok (.aload_n 0, 1) := by decide +kernel
theorem dX2_drop_16 : decode cX2_drop 16 = .ok (.getfield 13, 3) := by decide +kernel
theorem dX2_drop_19 : decode cX2_drop 19 = .ok (.iload_n 1, 1) := by decide +kernel
theorem dX2_drop_20 : decode cX2_drop 20 = .ok (.iconst 0, 1) := by decide +kernel
theorem dX2_drop_21 : decode cX2_drop 21 = .ok (.bastore, 1) := by decide +kernel
theorem dX2_drop_22 : decode cX2_drop 22 = .ok (.aload_n 0, 1) := by decide +kernel
theorem dX2_drop_23 : decode cX2_drop 23 = .ok (.invokevirtual 103, 3) := by decide +kernel
theorem dX2_drop_26 : decode cX2_drop 26 = .ok (.ireturn, 1) := by decide +kernel
set_option maxRecDepth 20000 in
theorem ggX2_end_X2_isThing : GoodIn wsX2_end wsX2_isThing := goodIn_r _ [10, 11, 12, 13, 14, 15, 16, 17, 18, 19, 20, 21, 22, 23, 24, 25, 26, 27, 28, 29, 30, 31, 32, 33, 34, 35, 36, 37, 38, 39] (by decide +kernel) (by decide +kernel)
set_option maxRecDepth 20000 in
theorem gX2_end_X2_isThing : GoodIn wsX2_end (wsV RX2 100 RX2 yX2_isThing wsX2_isThing) := goodIn_app (goodIn_of _ (by decide +kernel)) ggX2_end_X2_isThing
theorem dX2_end_0 : decode cX2_end 0 = .ok (.aload_n 0, 1) := by decide +kernel
theorem dX2_end_1 : decode cX2_end 1 = .ok (.iconst 0, 1) := by decide +kernel
theorem dX2_end_2 : decode cX2_end 2 = .ok (.putfield 69, 3) := by decide +kernel
theorem dX2_end_5 : decode cX2_end 5 = .ok (.aload_n 0, 1) := by decide +kernel
theorem dX2_end_6 : decode cX2_end 6 = .ok (.iload_n 1, 1) := by decide +kernel
theorem dX2_end_7 : decode cX2_end 7 = .ok (.invokevirtual 100, 3) := by decide +kernel
theorem dX2_end_10 : decode cX2_end 10 = .ok (.ifCond .eq 24, 3) := by decide +kernel
theorem dX2_end_13 : decode cX2_end 13 = .ok (.iload_n 2, 1) := by decide +kernel
theorem dX2_end_14 : decode cX2_end 14 = .ok (.ifCond .lt 20, 3) := by decide +kernel
theorem dX2_end_17 : decode cX2_end 17 = .ok (.iload_n 2, 1) := by decide +kernel
theorem dX2_end_18 : decode cX2_end 18 = .ok (.aload_n 0, 1) := by decide +kernel
theorem dX2_end_19 : decode cX2_end 19 = .ok (.getfield 7, 3) := by decide +kernel
theorem dX2_end_22 : decode cX2_end 22 = .ok (.if_icmp .ge 12, 3) := by decide +kernel
theorem dX2_end_25 : decode cX2_end 25 = .ok (.iload_n 3, 1) := by decide +kernel
theorem dX2_end_26 : decode cX2_end 26 = .ok (.ifCond .lt 8, 3) := by decide +kernel
theorem dX2_end_29 : decode cX2_end 29 = .ok (.iload_n 3, 1) := by decide +kernel
theorem dX2_end_30 : decode cX2_end 30 = .ok (.iconst 1, 1) := by decide +kernel
theorem dX2_end_31 : decode cX2_end 31 = .ok (.if_icmp .le 7, 3) := by decide +kernel
theorem dX2_end_34 : decode cX2_end 34 = .ok (.ldc2_w 107, 3) := by decide +kernel
theorem dX2_end_37 : decode cX2_end 37 = .ok (.lreturn, 1) := by decide +kernel
theorem dX2_end_38 : decode cX2_end 38 = .ok (.iload_n 3, 1) := by decide +kernel
theorem dX2_end_39 : decode cX2_end 39 = .ok (.ifCond .ne 17, 3) := by decide +kernel
theorem dX2_end_42 : decode cX2_end 42 = .ok (.aload_n 0, 1) := by decide +kernel
theorem dX2_end_43 : decode cX2_end 43 = .ok (.getfield 17, 3) := by decide +kernel
theorem dX2_end_46 : decode cX2_end 46 = .ok (.iconst 3, 1) := by decide +kernel
theorem dX2_end_47 : decode cX2_end 47 = .ok (.iload_n 1, 1) := by decide +kernel
theorem dX2_end_48 : decode cX2_end 48 = .ok (.imul, 1) := by decide +kernel
theorem dX2_end_49 : decode cX2_end 49 = .ok (.iload_n 2, 1) := by decide +kernel
theorem dX2_end_50 : decode cX2_end 50 = .ok (.iadd, 1) := by decide +kernel
theorem dX2_end_51 : decode cX2_end 51 = .ok (.iaload, 1) := by decide +kernel
theorem dX2_end_52 : decode cX2_end 52 = .ok (.i2l, 1) := by decide +kernel
theorem dX2_end_53 : decode cX2_end 53 = .ok (.goto 14, 3) := by decide +kernel
theorem dX2_end_56 : decode cX2_end 56 = .ok (.aload_n 0, 1) := by decide +kernel
theorem dX2_end_57 : decode cX2_end 57 = .ok (.getfield 21, 3) := by decide +kernel
theorem dX2_end_60 : decode cX2_end 60 = .ok (.iconst 3, 1) := by decide +kernel
theorem dX2_end_61 : decode cX2_end 61 = .ok (.iload_n 1, 1) := by decide +kernel
theorem dX2_end_62 : decode cX2_end 62 = .ok (.imul, 1) := by decide +kernel
theorem dX2_end_63 : decode cX2_end 63 = .ok (.iload_n 2, 1) := by decide +kernel
theorem dX2_end_64 : decode cX2_end 64 = .ok (.iadd, 1) := by decide +kernel
theorem dX2_end_65 : decode cX2_end 65 = .ok (.iaload, 1) := by decide +kernel
theorem dX2_end_66 : decode cX2_end 66 = .ok (.i2l, 1) := by decide +kernel
theorem dX2_end_67 : decode cX2_end 67 = .ok (.lreturn, 1) := by decide +kernel
theorem dX2_sum_0 : decode cX2_sum 0 = .ok (.aload_n 0, 1) := by decide +kernel
theorem dX2_sum_1 : decode cX2_sum 1 = .ok (.getfield 17, 3) := by decide +kernel
theorem dX2_sum_4 : decode cX2_sum 4 = .ok (.iconst 3, 1) := by decide +kernel
theorem dX2_sum_5 : decode cX2_sum 5 = .ok (.iload_n 1, 1) := by decide +kernel
theorem dX2_sum_6 : decode cX2_sum 6 = .ok (.imul, 1) := by decide +kernel
theorem dX2_sum_7 : decode cX2_sum 7 = .ok (.iload_n 2, 1) := by decide +kernel
theorem dX2_sum_8 : decode cX2_sum 8 = .ok (.iadd, 1) := by decide +kernel
theorem dX2_sum_9 : decode cX2_sum 9 = .ok (.iaload, 1) := by decide +kernel
theorem dX2_sum_10 : decode cX2_sum 10 = .ok (.aload_n 0, 1) := by decide +kernel
theorem dX2_sum_11 : decode cX2_sum 11 = .ok (.getfield 21, 3) := by decide +kernel
theorem dX2_sum_14 : decode cX2_sum 14 = .ok (.iconst 3, 1) := by decide +kernel
theorem dX2_sum_15 : decode cX2_sum 15 = .ok (.iload_n 1, 1) := by decide +kernel
theorem dX2_sum_16 : decode cX2_sum 16 = .ok (.imul, 1) := by decide +kernel
theorem dX2_sum_17 : decode cX2_sum 17 = .ok (.iload_n 2, 1) := by decide +kernel
theorem dX2_sum_18 : decode cX2_sum 18 = .ok (.iadd, 1) := by decide +kernel
theorem dX2_sum_19 : decode cX2_sum 19 = .ok (.iaload, 1) := by decide +kernel
theorem dX2_sum_20 : decode cX2_sum 20 = .ok (.iadd, 1) := by decide +kernel
theorem dX2_sum_21 : decode cX2_sum 21 = .ok (.ireturn, 1) := by decide +kernel
theorem dX2_await_0 : decode cX2_await 0 = .ok (.aload_n 0, 1) := by decide +kernel
theorem dX2_await_1 : decode cX2_await 1 = .ok (.getfield 48, 3) := by decide +kernel
theorem dX2_await_4 : decode cX2_await 4 = .ok (.aload_n 0, 1) := by decide +kernel
theorem dX2_await_5 : decode cX2_await 5 = .ok (.getfield 109, 3) := by decide +kernel
theorem dX2_await_8 : decode cX2_await 8 = .ok (.iload_n 1, 1) := by decide +kernel
theorem dX2_await_9 : decode cX2_await 9 = .ok (.iastore, 1) := by decide +kernel
theorem dX2_await_10 : decode cX2_await 10 = .ok (.aload_n 0, 1) := by decide +kernel
theorem dX2_await_11 : decode cX2_await 11 = .ok (.getfield 51, 3) := by decide +kernel
theorem dX2_await_14 : decode cX2_await 14 = .ok (.aload_n 0, 1) := by decide +kernel
theorem dX2_await_15 : decode cX2_await 15 = .ok (.getfield 109, 3) := by decide +kernel
theorem dX2_await_18 : decode cX2_await 18 = .ok (.iload_n 2, 1) := by decide +kernel
theorem dX2_await_19 : decode cX2_await 19 = .ok (.iastore, 1) := by decide +kernel
theorem dX2_await_20 : decode cX2_await 20 = .ok (.aload_n 0, 1) := by decide +kernel
theorem dX2_await_21 : decode cX2_await 21 = .ok (.getfield 54, 3) := by decide +kernel
theorem dX2_await_24 : decode cX2_await 24 = .ok (.aload_n 0, 1) := by decide +kernel
theorem dX2_await_25 : decode cX2_await 25 = .ok (.getfield 109, 3) := by decide +kernel
theorem dX2_await_28 : decode cX2_await 28 = .ok (.iload_n 3, 1) := by decide +kernel
theorem dX2_await_29 : decode cX2_await 29 = .ok (.iastore, 1) := by decide +kernel
theorem dX2_await_30 : decode cX2_await 30 = .ok (.aload_n 0, 1) := by decide +kernel
theorem dX2_await_31 : decode cX2_await 31 = .ok (.getfield 57, 3) := by decide +kernel
theorem dX2_await_34 : decode cX2_await 34 = .ok (.aload_n 0, 1) := by decide +kernel
theorem dX2_await_35 : decode cX2_await 35 = .ok (.getfield 109, 3) := by decide +kernel
theorem dX2_await_38 : decode cX2_await 38 = .ok (.iload 4, 2) := by decide +kernel
theorem dX2_await_40 : decode cX2_await 40 = .ok (.iastore, 1) := by decide +kernel
theorem dX2_await_41 : decode cX2_await 41 = .ok (.aload_n 0, 1) := by decide +kernel
theorem dX2_await_42 : decode cX2_await 42 = .ok (.dup, 1) := by decide +kernel
theorem dX2_await_43 : decode cX2_await 43 = .ok (.getfield 109, 3) := by decide +kernel
theorem dX2_await_46 : decode cX2_await 46 = .ok (.iconst 1, 1) := by decide +kernel
theorem dX2_await_47 : decode cX2_await 47 = .ok (.iadd, 1) := by decide +kernel
theorem dX2_await_48 : decode cX2_await 48 = .ok (.putfield 109, 3) := by decide +kernel
theorem dX2_await_51 : decode cX2_await 51 = .ok (.return_, 1) := by decide +kernel
set_option maxRecDepth 20000 in
theorem ggX2_look_X2_sum : GoodIn wsX2_look wsX2_sum := goodIn_r _ [17, 9, 10, 18, 19, 20, 21, 22, 23, 24, 25, 26, 27, 28, 29, 30, 31, 32, 33, 34, 35, 36, 37, 38, 39, 40, 41, 42, 43, 44] (by decide +kernel) (by decide +kernel)
set_option maxRecDepth 20000 in
theorem gX2_look_X2_sum : GoodIn wsX2_look (wsV RX2 114 RX2 yX2_sum wsX2_sum) := goodIn_app (goodIn_of _ (by decide +kernel)) ggX2_look_X2_sum
theorem dX2_look_0 : decode cX2_look 0 = .ok (.iconst 0, 1) := by decide +kernel
theorem dX2_look_1 : decode cX2_look 1 = .ok (.istore_n 2, 1) := by decide +kernel
theorem dX2_look_2 : decode cX2_look 2 = .ok (.iconst (-1), 1) := by decide +kernel
theorem dX2_look_3 : decode cX2_look 3 = .ok (.istore_n 3, 1) := by decide +kernel
theorem dX2_look_4 : decode cX2_look 4 = .ok (.iconst 0, 1) := by decide +kernel
theorem dX2_look_5 : decode cX2_look 5 = .ok (.istore 4, 2) := by decide +kernel
theorem dX2_look_7 : decode cX2_look 7 = .ok (.iload 4, 2) := by decide +kernel
theorem dX2_look_9 : decode cX2_look 9 = .ok (.aload_n 0, 1) := by decide +kernel
theorem dX2_look_10 : decode cX2_look 10 = .ok (.getfield 7, 3) := by decide +kernel
theorem dX2_look_13 : decode cX2_look 13 = .ok (.if_icmp .ge 255, 3) := by decide +kernel
theorem dX2_look_16 : decode cX2_look 16 = .ok (.ldc 76, 2) := by decide +kernel
theorem dX2_look_18 : decode cX2_look 18 = .ok (.istore 5, 2) := by decide +kernel
theorem dX2_look_20 : decode cX2_look 20 = .ok (.ldc 75, 2) := by decide +kernel
theorem dX2_look_22 : decode cX2_look 22 = .ok (.istore 6, 2) := by decide +kernel
theorem dX2_look_24 : decode cX2_look 24 = .ok (.ldc 112, 2) := by decide +kernel
theorem dX2_look_26 : decode cX2_look 26 = .ok (.istore 7, 2) := by decide +kernel
theorem dX2_look_28 : decode cX2_look 28 = .ok (.ldc 113, 2) := by decide +kernel
theorem dX2_look_30 : decode cX2_look 30 = .ok (.istore 8, 2) := by decide +kernel
