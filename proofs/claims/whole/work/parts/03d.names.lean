theorem dX2_pairs_52 : decode cX2_pairs 52 = .ok (.iload 5, 2) := by decide +kernel
theorem dX2_pairs_54 : decode cX2_pairs 54 = .ok (.aload_n 0, 1) := by decide +kernel
theorem dX2_pairs_55 : decode cX2_pairs 55 = .ok (.getfield 7, 3) := by decide +kernel
theorem dX2_pairs_58 : decode cX2_pairs 58 = .ok (.if_icmp .ge 71, 3) := by decide +kernel
theorem dX2_pairs_61 : decode cX2_pairs 61 = .ok (.iload 4, 2) := by decide +kernel
theorem dX2_pairs_63 : decode cX2_pairs 63 = .ok (.ifCond .eq 57, 3) := by decide +kernel
theorem dX2_pairs_66 : decode cX2_pairs 66 = .ok (.aload_n 0, 1) := by decide +kernel
theorem dX2_pairs_67 : decode cX2_pairs 67 = .ok (.getfield 17, 3) := by decide +kernel
theorem dX2_pairs_70 : decode cX2_pairs 70 = .ok (.iconst 3, 1) := by decide +kernel
theorem dX2_pairs_71 : decode cX2_pairs 71 = .ok (.iload_n 2, 1) := by decide +kernel
theorem dX2_pairs_72 : decode cX2_pairs 72 = .ok (.imul, 1) := by decide +kernel
theorem dX2_pairs_73 : decode cX2_pairs 73 = .ok (.iload 5, 2) := by decide +kernel
theorem dX2_pairs_75 : decode cX2_pairs 75 = .ok (.iadd, 1) := by decide +kernel
theorem dX2_pairs_76 : decode cX2_pairs 76 = .ok (.iaload, 1) := by decide +kernel
theorem dX2_pairs_77 : decode cX2_pairs 77 = .ok (.aload_n 0, 1) := by decide +kernel
theorem dX2_pairs_78 : decode cX2_pairs 78 = .ok (.getfield 21, 3) := by decide +kernel
theorem dX2_pairs_81 : decode cX2_pairs 81 = .ok (.iconst 3, 1) := by decide +kernel
theorem dX2_pairs_82 : decode cX2_pairs 82 = .ok (.iload_n 3, 1) := by decide +kernel
theorem dX2_pairs_83 : decode cX2_pairs 83 = .ok (.imul, 1) := by decide +kernel
theorem dX2_pairs_84 : decode cX2_pairs 84 = .ok (.iload 5, 2) := by decide +kernel
theorem dX2_pairs_86 : decode cX2_pairs 86 = .ok (.iadd, 1) := by decide +kernel
theorem dX2_pairs_87 : decode cX2_pairs 87 = .ok (.iaload, 1) := by decide +kernel
theorem dX2_pairs_88 : decode cX2_pairs 88 = .ok (.if_icmp .gt 32, 3) := by decide +kernel
theorem dX2_pairs_91 : decode cX2_pairs 91 = .ok (.aload_n 0, 1) := by decide +kernel
theorem dX2_pairs_92 : decode cX2_pairs 92 = .ok (.getfield 17, 3) := by decide +kernel
theorem dX2_pairs_95 : decode cX2_pairs 95 = .ok (.iconst 3, 1) := by decide +kernel
theorem dX2_pairs_96 : decode cX2_pairs 96 = .ok (.iload_n 3, 1) := by decide +kernel
theorem dX2_pairs_97 : decode cX2_pairs 97 = .ok (.imul, 1) := by decide +kernel
theorem dX2_pairs_98 : decode cX2_pairs 98 = .ok (.iload 5, 2) := by decide +kernel
theorem dX2_pairs_100 : decode cX2_pairs 100 = .ok (.iadd, 1) := by decide +kernel
theorem dX2_pairs_101 : decode cX2_pairs 101 = .ok (.iaload, 1) := by decide +kernel
theorem dX2_pairs_102 : decode cX2_pairs 102 = .ok (.aload_n 0, 1) := by decide +kernel
theorem dX2_pairs_103 : decode cX2_pairs 103 = .ok (.getfield 21, 3) := by decide +kernel
theorem dX2_pairs_106 : decode cX2_pairs 106 = .ok (.iconst 3, 1) := by decide +kernel
theorem dX2_pairs_107 : decode cX2_pairs 107 = .ok (.iload_n 2, 1) := by decide +kernel
theorem dX2_pairs_108 : decode cX2_pairs 108 = .ok (.imul, 1) := by decide +kernel
theorem dX2_pairs_109 : decode cX2_pairs 109 = .ok (.iload 5, 2) := by decide +kernel
theorem dX2_pairs_111 : decode cX2_pairs 111 = .ok (.iadd, 1) := by decide +kernel
theorem dX2_pairs_112 : decode cX2_pairs 112 = .ok (.iaload, 1) := by decide +kernel
theorem dX2_pairs_113 : decode cX2_pairs 113 = .ok (.if_icmp .gt 7, 3) := by decide +kernel
theorem dX2_pairs_116 : decode cX2_pairs 116 = .ok (.iconst 1, 1) := by decide +kernel
theorem dX2_pairs_117 : decode cX2_pairs 117 = .ok (.goto 4, 3) := by decide +kernel
theorem dX2_pairs_120 : decode cX2_pairs 120 = .ok (.iconst 0, 1) := by decide +kernel
theorem dX2_pairs_121 : decode cX2_pairs 121 = .ok (.istore 4, 2) := by decide +kernel
theorem dX2_pairs_123 : decode cX2_pairs 123 = .ok (.iinc 5 1, 3) := by decide +kernel
theorem dX2_pairs_126 : decode cX2_pairs 126 = .ok (.goto (-74), 3) := by decide +kernel
theorem dX2_pairs_129 : decode cX2_pairs 129 = .ok (.iload_n 1, 1) := by decide +kernel
theorem dX2_pairs_130 : decode cX2_pairs 130 = .ok (.iload 4, 2) := by decide +kernel
theorem dX2_pairs_132 : decode cX2_pairs 132 = .ok (.ifCond .eq 7, 3) := by decide +kernel
theorem dX2_pairs_135 : decode cX2_pairs 135 = .ok (.iconst 1, 1) := by decide +kernel
theorem dX2_pairs_136 : decode cX2_pairs 136 = .ok (.goto 4, 3) := by decide +kernel
theorem dX2_pairs_139 : decode cX2_pairs 139 = .ok (.iconst 0, 1) := by decide +kernel
theorem dX2_pairs_140 : decode cX2_pairs 140 = .ok (.iadd, 1) := by decide +kernel
theorem dX2_pairs_141 : decode cX2_pairs 141 = .ok (.istore_n 1, 1) := by decide +kernel
theorem dX2_pairs_142 : decode cX2_pairs 142 = .ok (.iinc 3 1, 3) := by decide +kernel
theorem dX2_pairs_145 : decode cX2_pairs 145 = .ok (.goto (-126), 3) := by decide +kernel
theorem dX2_pairs_148 : decode cX2_pairs 148 = .ok (.iinc 2 1, 3) := by decide +kernel
theorem dX2_pairs_151 : decode cX2_pairs 151 = .ok (.goto (-142), 3) := by decide +kernel
theorem dX2_pairs_154 : decode cX2_pairs 154 = .ok (.iload_n 1, 1) := by decide +kernel
theorem dX2_pairs_155 : decode cX2_pairs 155 = .ok (.ireturn, 1) := by decide +kernel
theorem dX2_day_0 : decode cX2_day 0 = .ok (.aload_n 0, 1) := by decide +kernel
theorem dX2_day_1 : decode cX2_day 1 = .ok (.lload_n 3, 1) := by decide +kernel
theorem dX2_day_2 : decode cX2_day 2 = .ok (.lconst 0, 1) := by decide +kernel
theorem dX2_day_3 : decode cX2_day 3 = .ok (.lcmp, 1) := by decide +kernel
theorem dX2_day_4 : decode cX2_day 4 = .ok (.ifCond .ne 7, 3) := by decide +kernel
theorem dX2_day_7 : decode cX2_day 7 = .ok (.iconst 1, 1) := by decide +kernel
theorem dX2_day_8 : decode cX2_day 8 = .ok (.goto 4, 3) := by decide +kernel
theorem dX2_day_11 : decode cX2_day 11 = .ok (.iconst 0, 1) := by decide +kernel
theorem dX2_day_12 : decode cX2_day 12 = .ok (.putfield 69, 3) := by decide +kernel
theorem dX2_day_15 : decode cX2_day 15 = .ok (.lload_n 3, 1) := by decide +kernel
theorem dX2_day_16 : decode cX2_day 16 = .ok (.lconst 0, 1) := by decide +kernel
theorem dX2_day_17 : decode cX2_day 17 = .ok (.lcmp, 1) := by decide +kernel
theorem dX2_day_18 : decode cX2_day 18 = .ok (.ifCond .gt 18, 3) := by decide +kernel
theorem dX2_day_21 : decode cX2_day 21 = .ok (.aload_n 0, 1) := by decide +kernel
theorem dX2_day_22 : decode cX2_day 22 = .ok (.getfield 69, 3) := by decide +kernel
theorem dX2_day_25 : decode cX2_day 25 = .ok (.ifCond .le 7, 3) := by decide +kernel
theorem dX2_day_28 : decode cX2_day 28 = .ok (.lconst 0, 1) := by decide +kernel
theorem dX2_day_29 : decode cX2_day 29 = .ok (.goto 6, 3) := by decide +kernel
theorem dX2_day_32 : decode cX2_day 32 = .ok (.ldc2_w 107, 3) := by decide +kernel
theorem dX2_day_35 : decode cX2_day 35 = .ok (.lreturn, 1) := by decide +kernel
theorem dX2_day_36 : decode cX2_day 36 = .ok (.lload_n 1, 1) := by decide +kernel
theorem dX2_day_37 : decode cX2_day 37 = .ok (.lload_n 3, 1) := by decide +kernel
theorem dX2_day_38 : decode cX2_day 38 = .ok (.ldiv, 1) := by decide +kernel
theorem dX2_day_39 : decode cX2_day 39 = .ok (.lstore 5, 2) := by decide +kernel
theorem dX2_day_41 : decode cX2_day 41 = .ok (.lload_n 1, 1) := by decide +kernel
theorem dX2_day_42 : decode cX2_day 42 = .ok (.lload_n 3, 1) := by decide +kernel
theorem dX2_day_43 : decode cX2_day 43 = .ok (.lrem, 1) := by decide +kernel
theorem dX2_day_44 : decode cX2_day 44 = .ok (.lconst 0, 1) := by decide +kernel
theorem dX2_day_45 : decode cX2_day 45 = .ok (.lcmp, 1) := by decide +kernel
theorem dX2_day_46 : decode cX2_day 46 = .ok (.ifCond .ge 10, 3) := by decide +kernel
theorem dX2_day_49 : decode cX2_day 49 = .ok (.lload 5, 2) := by decide +kernel
theorem dX2_day_51 : decode cX2_day 51 = .ok (.lconst 1, 1) := by decide +kernel
theorem dX2_day_52 : decode cX2_day 52 = .ok (.lsub, 1) := by decide +kernel
theorem dX2_day_53 : decode cX2_day 53 = .ok (.goto 5, 3) := by decide +kernel
theorem dX2_day_56 : decode cX2_day 56 = .ok (.lload 5, 2) := by decide +kernel
theorem dX2_day_58 : decode cX2_day 58 = .ok (.lreturn, 1) := by decide +kernel
theorem dJ9_floorDiv_f86c9_0 : decode cJ9_floorDiv_f86c9 0 = .ok (.lload_n 0, 1) := by decide +kernel
theorem dJ9_floorDiv_f86c9_1 : decode cJ9_floorDiv_f86c9 1 = .ok (.lload_n 2, 1) := by decide +kernel
theorem dJ9_floorDiv_f86c9_2 : decode cJ9_floorDiv_f86c9 2 = .ok (.ldiv, 1) := by decide +kernel
theorem dJ9_floorDiv_f86c9_3 : decode cJ9_floorDiv_f86c9 3 = .ok (.lstore 4, 2) := by decide +kernel
theorem dJ9_floorDiv_f86c9_5 : decode cJ9_floorDiv_f86c9 5 = .ok (.lload_n 0, 1) := by decide +kernel
theorem dJ9_floorDiv_f86c9_6 : decode cJ9_floorDiv_f86c9 6 = .ok (.lload_n 2, 1) := by decide +kernel
theorem dJ9_floorDiv_f86c9_7 : decode cJ9_floorDiv_f86c9 7 = .ok (.lxor, 1) := by decide +kernel
theorem dJ9_floorDiv_f86c9_8 : decode cJ9_floorDiv_f86c9 8 = .ok (.lconst 0, 1) := by decide +kernel
theorem dJ9_floorDiv_f86c9_9 : decode cJ9_floorDiv_f86c9 9 = .ok (.lcmp, 1) := by decide +kernel
theorem dJ9_floorDiv_f86c9_10 : decode cJ9_floorDiv_f86c9 10 = .ok (.ifCond .ge 17, 3) := by decide +kernel
theorem dJ9_floorDiv_f86c9_13 : decode cJ9_floorDiv_f86c9 13 = .ok (.lload 4, 2) := by decide +kernel
theorem dJ9_floorDiv_f86c9_15 : decode cJ9_floorDiv_f86c9 15 = .ok (.lload_n 2, 1) := by decide +kernel
theorem dJ9_floorDiv_f86c9_16 : decode cJ9_floorDiv_f86c9 16 = .ok (.lmul, 1) := by decide +kernel
theorem dJ9_floorDiv_f86c9_17 : decode cJ9_floorDiv_f86c9 17 = .ok (.lload_n 0, 1) := by decide +kernel
theorem dJ9_floorDiv_f86c9_18 : decode cJ9_floorDiv_f86c9 18 = .ok (.lcmp, 1) := by decide +kernel
theorem dJ9_floorDiv_f86c9_19 : decode cJ9_floorDiv_f86c9 19 = .ok (.ifCond .eq 8, 3) := by decide +kernel
theorem dJ9_floorDiv_f86c9_22 : decode cJ9_floorDiv_f86c9 22 = .ok (.lload 4, 2) := by decide +kernel
theorem dJ9_floorDiv_f86c9_24 : decode cJ9_floorDiv_f86c9 24 = .ok (.lconst 1, 1) := by decide +kernel
theorem dJ9_floorDiv_f86c9_25 : decode cJ9_floorDiv_f86c9 25 = .ok (.lsub, 1) := by decide +kernel
theorem dJ9_floorDiv_f86c9_26 : decode cJ9_floorDiv_f86c9 26 = .ok (.lreturn, 1) := by decide +kernel
theorem dJ9_floorDiv_f86c9_27 : decode cJ9_floorDiv_f86c9 27 = .ok (.lload 4, 2) := by decide +kernel
theorem dJ9_floorDiv_f86c9_29 : decode cJ9_floorDiv_f86c9 29 = .ok (.lreturn, 1) := by decide +kernel
theorem dJ9_max_7cf53_0 : decode cJ9_max_7cf53 0 = .ok (.iload_n 0, 1) := by decide +kernel
theorem dJ9_max_7cf53_1 : decode cJ9_max_7cf53 1 = .ok (.iload_n 1, 1) := by decide +kernel
theorem dJ9_max_7cf53_2 : decode cJ9_max_7cf53 2 = .ok (.if_icmp .lt 7, 3) := by decide +kernel
theorem dJ9_max_7cf53_5 : decode cJ9_max_7cf53 5 = .ok (.iload_n 0, 1) := by decide +kernel
theorem dJ9_max_7cf53_6 : decode cJ9_max_7cf53 6 = .ok (.goto 4, 3) := by decide +kernel
theorem dJ9_max_7cf53_9 : decode cJ9_max_7cf53 9 = .ok (.iload_n 1, 1) := by decide +kernel
theorem dJ9_max_7cf53_10 : decode cJ9_max_7cf53 10 = .ok (.ireturn, 1) := by decide +kernel
theorem dJ9_max_f86c9_0 : decode cJ9_max_f86c9 0 = .ok (.lload_n 0, 1) := by decide +kernel
theorem dJ9_max_f86c9_1 : decode cJ9_max_f86c9 1 = .ok (.lload_n 2, 1) := by decide +kernel
theorem dJ9_max_f86c9_2 : decode cJ9_max_f86c9 2 = .ok (.lcmp, 1) := by decide +kernel
theorem dJ9_max_f86c9_3 : decode cJ9_max_f86c9 3 = .ok (.ifCond .lt 7, 3) := by decide +kernel
theorem dJ9_max_f86c9_6 : decode cJ9_max_f86c9 6 = .ok (.lload_n 0, 1) := by decide +kernel
theorem dJ9_max_f86c9_7 : decode cJ9_max_f86c9 7 = .ok (.goto 4, 3) := by decide +kernel
theorem dJ9_max_f86c9_10 : decode cJ9_max_f86c9 10 = .ok (.lload_n 2, 1) := by decide +kernel
theorem dJ9_max_f86c9_11 : decode cJ9_max_f86c9 11 = .ok (.lreturn, 1) := by decide +kernel
theorem dJ9_min_7cf53_0 : decode cJ9_min_7cf53 0 = .ok (.iload_n 0, 1) := by decide +kernel
theorem dJ9_min_7cf53_1 : decode cJ9_min_7cf53 1 = .ok (.iload_n 1, 1) := by decide +kernel
theorem dJ9_min_7cf53_2 : decode cJ9_min_7cf53 2 = .ok (.if_icmp .gt 7, 3) := by decide +kernel
theorem dJ9_min_7cf53_5 : decode cJ9_min_7cf53 5 = .ok (.iload_n 0, 1) := by decide +kernel
theorem dJ9_min_7cf53_6 : decode cJ9_min_7cf53 6 = .ok (.goto 4, 3) := by decide +kernel
theorem dJ9_min_7cf53_9 : decode cJ9_min_7cf53 9 = .ok (.iload_n 1, 1) := by decide +kernel
theorem dJ9_min_7cf53_10 : decode cJ9_min_7cf53 10 = .ok (.ireturn, 1) := by decide +kernel
abbrev vwCl : List vw_C := [(RX0, TX0, 1), (RX1, TX1, 18), (RX2, TX2, 27)]
