theorem dX2_look_32 : decode cX2_look 32 = .ok (.aload_n 0, 1) := by decide +kernel
theorem dX2_look_33 : decode cX2_look 33 = .ok (.getfield 30, 3) := by decide +kernel
theorem dX2_look_36 : decode cX2_look 36 = .ok (.iload_n 1, 1) := by decide +kernel
theorem dX2_look_37 : decode cX2_look 37 = .ok (.iaload, 1) := by decide +kernel
theorem dX2_look_38 : decode cX2_look 38 = .ok (.istore 9, 2) := by decide +kernel
theorem dX2_look_40 : decode cX2_look 40 = .ok (.iload 9, 2) := by decide +kernel
theorem dX2_look_42 : decode cX2_look 42 = .ok (.aload_n 0, 1) := by decide +kernel
theorem dX2_look_43 : decode cX2_look 43 = .ok (.getfield 30, 3) := by decide +kernel
theorem dX2_look_46 : decode cX2_look 46 = .ok (.iload_n 1, 1) := by decide +kernel
theorem dX2_look_47 : decode cX2_look 47 = .ok (.iaload, 1) := by decide +kernel
theorem dX2_look_48 : decode cX2_look 48 = .ok (.aload_n 0, 1) := by decide +kernel
theorem dX2_look_49 : decode cX2_look 49 = .ok (.getfield 33, 3) := by decide +kernel
theorem dX2_look_52 : decode cX2_look 52 = .ok (.iload_n 1, 1) := by decide +kernel
theorem dX2_look_53 : decode cX2_look 53 = .ok (.iaload, 1) := by decide +kernel
theorem dX2_look_54 : decode cX2_look 54 = .ok (.iadd, 1) := by decide +kernel
theorem dX2_look_55 : decode cX2_look 55 = .ok (.if_icmp .ge 146, 3) := by decide +kernel
theorem dX2_look_58 : decode cX2_look 58 = .ok (.aload_n 0, 1) := by decide +kernel
theorem dX2_look_59 : decode cX2_look 59 = .ok (.getfield 27, 3) := by decide +kernel
theorem dX2_look_62 : decode cX2_look 62 = .ok (.iload 9, 2) := by decide +kernel
theorem dX2_look_64 : decode cX2_look 64 = .ok (.iaload, 1) := by decide +kernel
theorem dX2_look_65 : decode cX2_look 65 = .ok (.istore 10, 2) := by decide +kernel
theorem dX2_look_67 : decode cX2_look 67 = .ok (.aload_n 0, 1) := by decide +kernel
theorem dX2_look_68 : decode cX2_look 68 = .ok (.getfield 17, 3) := by decide +kernel
theorem dX2_look_71 : decode cX2_look 71 = .ok (.iconst 3, 1) := by decide +kernel
theorem dX2_look_72 : decode cX2_look 72 = .ok (.iload 10, 2) := by decide +kernel
theorem dX2_look_74 : decode cX2_look 74 = .ok (.imul, 1) := by decide +kernel
theorem dX2_look_75 : decode cX2_look 75 = .ok (.iload 4, 2) := by decide +kernel
theorem dX2_look_77 : decode cX2_look 77 = .ok (.iadd, 1) := by decide +kernel
theorem dX2_look_78 : decode cX2_look 78 = .ok (.iaload, 1) := by decide +kernel
theorem dX2_look_79 : decode cX2_look 79 = .ok (.iload 5, 2) := by decide +kernel
theorem dX2_look_81 : decode cX2_look 81 = .ok (.if_icmp .ge 18, 3) := by decide +kernel
theorem dX2_look_84 : decode cX2_look 84 = .ok (.aload_n 0, 1) := by decide +kernel
theorem dX2_look_85 : decode cX2_look 85 = .ok (.getfield 17, 3) := by decide +kernel
theorem dX2_look_88 : decode cX2_look 88 = .ok (.iconst 3, 1) := by decide +kernel
theorem dX2_look_89 : decode cX2_look 89 = .ok (.iload 10, 2) := by decide +kernel
theorem dX2_look_91 : decode cX2_look 91 = .ok (.imul, 1) := by decide +kernel
theorem dX2_look_92 : decode cX2_look 92 = .ok (.iload 4, 2) := by decide +kernel
theorem dX2_look_94 : decode cX2_look 94 = .ok (.iadd, 1) := by decide +kernel
theorem dX2_look_95 : decode cX2_look 95 = .ok (.iaload, 1) := by decide +kernel
theorem dX2_look_96 : decode cX2_look 96 = .ok (.goto 5, 3) := by decide +kernel
theorem dX2_look_99 : decode cX2_look 99 = .ok (.iload 5, 2) := by decide +kernel
theorem dX2_look_101 : decode cX2_look 101 = .ok (.istore 5, 2) := by decide +kernel
theorem dX2_look_103 : decode cX2_look 103 = .ok (.aload_n 0, 1) := by decide +kernel
theorem dX2_look_104 : decode cX2_look 104 = .ok (.getfield 21, 3) := by decide +kernel
theorem dX2_look_107 : decode cX2_look 107 = .ok (.iconst 3, 1) := by decide +kernel
theorem dX2_look_108 : decode cX2_look 108 = .ok (.iload 10, 2) := by decide +kernel
theorem dX2_look_110 : decode cX2_look 110 = .ok (.imul, 1) := by decide +kernel
theorem dX2_look_111 : decode cX2_look 111 = .ok (.iload 4, 2) := by decide +kernel
theorem dX2_look_113 : decode cX2_look 113 = .ok (.iadd, 1) := by decide +kernel
theorem dX2_look_114 : decode cX2_look 114 = .ok (.iaload, 1) := by decide +kernel
theorem dX2_look_115 : decode cX2_look 115 = .ok (.iload 6, 2) := by decide +kernel
theorem dX2_look_117 : decode cX2_look 117 = .ok (.if_icmp .le 18, 3) := by decide +kernel
theorem dX2_look_120 : decode cX2_look 120 = .ok (.aload_n 0, 1) := by decide +kernel
theorem dX2_look_121 : decode cX2_look 121 = .ok (.getfield 21, 3) := by decide +kernel
theorem dX2_look_124 : decode cX2_look 124 = .ok (.iconst 3, 1) := by decide +kernel
theorem dX2_look_125 : decode cX2_look 125 = .ok (.iload 10, 2) := by decide +kernel
theorem dX2_look_127 : decode cX2_look 127 = .ok (.imul, 1) := by decide +kernel
theorem dX2_look_128 : decode cX2_look 128 = .ok (.iload 4, 2) := by decide +kernel
theorem dX2_look_130 : decode cX2_look 130 = .ok (.iadd, 1) := by decide +kernel
theorem dX2_look_131 : decode cX2_look 131 = .ok (.iaload, 1) := by decide +kernel
theorem dX2_look_132 : decode cX2_look 132 = .ok (.goto 5, 3) := by decide +kernel
theorem dX2_look_135 : decode cX2_look 135 = .ok (.iload 6, 2) := by decide +kernel
theorem dX2_look_137 : decode cX2_look 137 = .ok (.istore 6, 2) := by decide +kernel
theorem dX2_look_139 : decode cX2_look 139 = .ok (.aload_n 0, 1) := by decide +kernel
theorem dX2_look_140 : decode cX2_look 140 = .ok (.iload 10, 2) := by decide +kernel
theorem dX2_look_142 : decode cX2_look 142 = .ok (.iload 4, 2) := by decide +kernel
theorem dX2_look_144 : decode cX2_look 144 = .ok (.invokevirtual 114, 3) := by decide +kernel
theorem dX2_look_147 : decode cX2_look 147 = .ok (.iload 7, 2) := by decide +kernel
theorem dX2_look_149 : decode cX2_look 149 = .ok (.if_icmp .ge 14, 3) := by decide +kernel
theorem dX2_look_152 : decode cX2_look 152 = .ok (.aload_n 0, 1) := by decide +kernel
theorem dX2_look_153 : decode cX2_look 153 = .ok (.iload 10, 2) := by decide +kernel
theorem dX2_look_155 : decode cX2_look 155 = .ok (.iload 4, 2) := by decide +kernel
theorem dX2_look_157 : decode cX2_look 157 = .ok (.invokevirtual 114, 3) := by decide +kernel
theorem dX2_look_160 : decode cX2_look 160 = .ok (.goto 5, 3) := by decide +kernel
theorem dX2_look_163 : decode cX2_look 163 = .ok (.iload 7, 2) := by decide +kernel
theorem dX2_look_165 : decode cX2_look 165 = .ok (.istore 7, 2) := by decide +kernel
theorem dX2_look_167 : decode cX2_look 167 = .ok (.aload_n 0, 1) := by decide +kernel
theorem dX2_look_168 : decode cX2_look 168 = .ok (.iload 10, 2) := by decide +kernel
theorem dX2_look_170 : decode cX2_look 170 = .ok (.iload 4, 2) := by decide +kernel
theorem dX2_look_172 : decode cX2_look 172 = .ok (.invokevirtual 114, 3) := by decide +kernel
theorem dX2_look_175 : decode cX2_look 175 = .ok (.iload 8, 2) := by decide +kernel
theorem dX2_look_177 : decode cX2_look 177 = .ok (.if_icmp .le 14, 3) := by decide +kernel
theorem dX2_look_180 : decode cX2_look 180 = .ok (.aload_n 0, 1) := by decide +kernel
theorem dX2_look_181 : decode cX2_look 181 = .ok (.iload 10, 2) := by decide +kernel
theorem dX2_look_183 : decode cX2_look 183 = .ok (.iload 4, 2) := by decide +kernel
theorem dX2_look_185 : decode cX2_look 185 = .ok (.invokevirtual 114, 3) := by decide +kernel
theorem dX2_look_188 : decode cX2_look 188 = .ok (.goto 5, 3) := by decide +kernel
theorem dX2_look_191 : decode cX2_look 191 = .ok (.iload 8, 2) := by decide +kernel
theorem dX2_look_193 : decode cX2_look 193 = .ok (.istore 8, 2) := by decide +kernel
theorem dX2_look_195 : decode cX2_look 195 = .ok (.iinc 9 1, 3) := by decide +kernel
theorem dX2_look_198 : decode cX2_look 198 = .ok (.goto (-158), 3) := by decide +kernel
theorem dX2_look_201 : decode cX2_look 201 = .ok (.aload_n 0, 1) := by decide +kernel
theorem dX2_look_202 : decode cX2_look 202 = .ok (.getfield 42, 3) := by decide +kernel
theorem dX2_look_205 : decode cX2_look 205 = .ok (.iconst 3, 1) := by decide +kernel
theorem dX2_look_206 : decode cX2_look 206 = .ok (.iload_n 1, 1) := by decide +kernel
theorem dX2_look_207 : decode cX2_look 207 = .ok (.imul, 1) := by decide +kernel
theorem dX2_look_208 : decode cX2_look 208 = .ok (.iload 4, 2) := by decide +kernel
theorem dX2_look_210 : decode cX2_look 210 = .ok (.iadd, 1) := by decide +kernel
theorem dX2_look_211 : decode cX2_look 211 = .ok (.iload 5, 2) := by decide +kernel
theorem dX2_look_213 : decode cX2_look 213 = .ok (.iastore, 1) := by decide +kernel
theorem dX2_look_214 : decode cX2_look 214 = .ok (.aload_n 0, 1) := by decide +kernel
theorem dX2_look_215 : decode cX2_look 215 = .ok (.getfield 45, 3) := by decide +kernel
theorem dX2_look_218 : decode cX2_look 218 = .ok (.iconst 3, 1) := by decide +kernel
theorem dX2_look_219 : decode cX2_look 219 = .ok (.iload_n 1, 1) := by decide +kernel
theorem dX2_look_220 : decode cX2_look 220 = .ok (.imul, 1) := by decide +kernel
theorem dX2_look_221 : decode cX2_look 221 = .ok (.iload 4, 2) := by decide +kernel
theorem dX2_look_223 : decode cX2_look 223 = .ok (.iadd, 1) := by decide +kernel
theorem dX2_look_224 : decode cX2_look 224 = .ok (.iload 6, 2) := by decide +kernel
theorem dX2_look_226 : decode cX2_look 226 = .ok (.iastore, 1) := by decide +kernel
theorem dX2_look_227 : decode cX2_look 227 = .ok (.iload 8, 2) := by decide +kernel
theorem dX2_look_229 : decode cX2_look 229 = .ok (.iload 7, 2) := by decide +kernel
theorem dX2_look_231 : decode cX2_look 231 = .ok (.isub, 1) := by decide +kernel
theorem dX2_look_232 : decode cX2_look 232 = .ok (.iload_n 3, 1) := by decide +kernel
theorem dX2_look_233 : decode cX2_look 233 = .ok (.if_icmp .le 8, 3) := by decide +kernel
theorem dX2_look_236 : decode cX2_look 236 = .ok (.iload 4, 2) := by decide +kernel
theorem dX2_look_238 : decode cX2_look 238 = .ok (.goto 4, 3) := by decide +kernel
theorem dX2_look_241 : decode cX2_look 241 = .ok (.iload_n 2, 1) := by decide +kernel
theorem dX2_look_242 : decode cX2_look 242 = .ok (.istore_n 2, 1) := by decide +kernel
theorem dX2_look_243 : decode cX2_look 243 = .ok (.iload 8, 2) := by decide +kernel
theorem dX2_look_245 : decode cX2_look 245 = .ok (.iload 7, 2) := by decide +kernel
theorem dX2_look_247 : decode cX2_look 247 = .ok (.isub, 1) := by decide +kernel
theorem dX2_look_248 : decode cX2_look 248 = .ok (.iload_n 3, 1) := by decide +kernel
theorem dX2_look_249 : decode cX2_look 249 = .ok (.if_icmp .le 11, 3) := by decide +kernel
theorem dX2_look_252 : decode cX2_look 252 = .ok (.iload 8, 2) := by decide +kernel
theorem dX2_look_254 : decode cX2_look 254 = .ok (.iload 7, 2) := by decide +kernel
theorem dX2_look_256 : decode cX2_look 256 = .ok (.isub, 1) := by decide +kernel
theorem dX2_look_257 : decode cX2_look 257 = .ok (.goto 4, 3) := by decide +kernel
theorem dX2_look_260 : decode cX2_look 260 = .ok (.iload_n 3, 1) := by decide +kernel
theorem dX2_look_261 : decode cX2_look 261 = .ok (.istore_n 3, 1) := by decide +kernel
theorem dX2_look_262 : decode cX2_look 262 = .ok (.iinc 4 1, 3) := by decide +kernel
theorem dX2_look_265 : decode cX2_look 265 = .ok (.goto (-258), 3) := by decide +kernel
theorem dX2_look_268 : decode cX2_look 268 = .ok (.iload_n 2, 1) := by decide +kernel
theorem dX2_look_269 : decode cX2_look 269 = .ok (.ireturn, 1) := by decide +kernel
set_option maxRecDepth 20000 in
theorem ggX2_sort_X2_sum : GoodIn wsX2_sort wsX2_sum := goodIn_r _ [6, 7, 8, 9, 10, 11, 12, 13, 14, 15, 16, 17, 18, 19, 20, 21, 22, 23, 24, 25, 26, 27, 28, 29, 30, 31, 32, 33, 34, 35] (by decide +kernel) (by decide +kernel)
set_option maxRecDepth 20000 in
theorem gX2_sort_X2_sum : GoodIn wsX2_sort (wsV RX2 114 RX2 yX2_sum wsX2_sum) := goodIn_app (goodIn_of _ (by decide +kernel)) ggX2_sort_X2_sum
theorem dX2_sort_0 : decode cX2_sort 0 = .ok (.iload_n 1, 1) := by decide +kernel
theorem dX2_sort_1 : decode cX2_sort 1 = .ok (.iconst 1, 1) := by decide +kernel
theorem dX2_sort_2 : decode cX2_sort 2 = .ok (.iadd, 1) := by decide +kernel
theorem dX2_sort_3 : decode cX2_sort 3 = .ok (.istore 4, 2) := by decide +kernel
theorem dX2_sort_5 : decode cX2_sort 5 = .ok (.iload 4, 2) := by decide +kernel
theorem dX2_sort_7 : decode cX2_sort 7 = .ok (.iload_n 1, 1) := by decide +kernel
theorem dX2_sort_8 : decode cX2_sort 8 = .ok (.iload_n 2, 1) := by decide +kernel
theorem dX2_sort_9 : decode cX2_sort 9 = .ok (.iadd, 1) := by decide +kernel
theorem dX2_sort_10 : decode cX2_sort 10 = .ok (.if_icmp .ge 121, 3) := by decide +kernel
theorem dX2_sort_13 : decode cX2_sort 13 = .ok (.aload_n 0, 1) := by decide +kernel
theorem dX2_sort_14 : decode cX2_sort 14 = .ok (.getfield 27, 3) := by decide +kernel
theorem dX2_sort_17 : decode cX2_sort 17 = .ok (.iload 4, 2) := by decide +kernel
theorem dX2_sort_19 : decode cX2_sort 19 = .ok (.iaload, 1) := by decide +kernel
theorem dX2_sort_20 : decode cX2_sort 20 = .ok (.istore 5, 2) := by decide +kernel
theorem dX2_sort_22 : decode cX2_sort 22 = .ok (.iload 4, 2) := by decide +kernel
theorem dX2_sort_24 : decode cX2_sort 24 = .ok (.istore 6, 2) := by decide +kernel
theorem dX2_sort_26 : decode cX2_sort 26 = .ok (.iload 6, 2) := by decide +kernel
theorem dX2_sort_28 : decode cX2_sort 28 = .ok (.iload_n 1, 1) := by decide +kernel
theorem dX2_sort_29 : decode cX2_sort 29 = .ok (.if_icmp .le 87, 3) := by decide +kernel
theorem dX2_sort_32 : decode cX2_sort 32 = .ok (.aload_n 0, 1) := by decide +kernel
theorem dX2_sort_33 : decode cX2_sort 33 = .ok (.aload_n 0, 1) := by decide +kernel
theorem dX2_sort_34 : decode cX2_sort 34 = .ok (.getfield 27, 3) := by decide +kernel
theorem dX2_sort_37 : decode cX2_sort 37 = .ok (.iload 6, 2) := by decide +kernel
theorem dX2_sort_39 : decode cX2_sort 39 = .ok (.iconst 1, 1) := by decide +kernel
theorem dX2_sort_40 : decode cX2_sort 40 = .ok (.isub, 1) := by decide +kernel
theorem dX2_sort_41 : decode cX2_sort 41 = .ok (.iaload, 1) := by decide +kernel
theorem dX2_sort_42 : decode cX2_sort 42 = .ok (.iload_n 3, 1) := by decide +kernel
theorem dX2_sort_43 : decode cX2_sort 43 = .ok (.invokevirtual 114, 3) := by decide +kernel
theorem dX2_sort_46 : decode cX2_sort 46 = .ok (.aload_n 0, 1) := by decide +kernel
theorem dX2_sort_47 : decode cX2_sort 47 = .ok (.iload 5, 2) := by decide +kernel
theorem dX2_sort_49 : decode cX2_sort 49 = .ok (.iload_n 3, 1) := by decide +kernel
theorem dX2_sort_50 : decode cX2_sort 50 = .ok (.invokevirtual 114, 3) := by decide +kernel
theorem dX2_sort_53 : decode cX2_sort 53 = .ok (.if_icmp .gt 41, 3) := by decide +kernel
theorem dX2_sort_56 : decode cX2_sort 56 = .ok (.aload_n 0, 1) := by decide +kernel
theorem dX2_sort_57 : decode cX2_sort 57 = .ok (.aload_n 0, 1) := by decide +kernel
theorem dX2_sort_58 : decode cX2_sort 58 = .ok (.getfield 27, 3) := by decide +kernel
theorem dX2_sort_61 : decode cX2_sort 61 = .ok (.iload 6, 2) := by decide +kernel
theorem dX2_sort_63 : decode cX2_sort 63 = .ok (.iconst 1, 1) := by decide +kernel
theorem dX2_sort_64 : decode cX2_sort 64 = .ok (.isub, 1) := by decide +kernel
theorem dX2_sort_65 : decode cX2_sort 65 = .ok (.iaload, 1) := by decide +kernel
theorem dX2_sort_66 : decode cX2_sort 66 = .ok (.iload_n 3, 1) := by decide +kernel
theorem dX2_sort_67 : decode cX2_sort 67 = .ok (.invokevirtual 114, 3) := by decide +kernel
theorem dX2_sort_70 : decode cX2_sort 70 = .ok (.aload_n 0, 1) := by decide +kernel
theorem dX2_sort_71 : decode cX2_sort 71 = .ok (.iload 5, 2) := by decide +kernel
theorem dX2_sort_73 : decode cX2_sort 73 = .ok (.iload_n 3, 1) := by decide +kernel
theorem dX2_sort_74 : decode cX2_sort 74 = .ok (.invokevirtual 114, 3) := by decide +kernel
theorem dX2_sort_77 : decode cX2_sort 77 = .ok (.if_icmp .ne 39, 3) := by decide +kernel
theorem dX2_sort_80 : decode cX2_sort 80 = .ok (.aload_n 0, 1) := by decide +kernel
theorem dX2_sort_81 : decode cX2_sort 81 = .ok (.getfield 27, 3) := by decide +kernel
theorem dX2_sort_84 : decode cX2_sort 84 = .ok (.iload 6, 2) := by decide +kernel
theorem dX2_sort_86 : decode cX2_sort 86 = .ok (.iconst 1, 1) := by decide +kernel
theorem dX2_sort_87 : decode cX2_sort 87 = .ok (.isub, 1) := by decide +kernel
theorem dX2_sort_88 : decode cX2_sort 88 = .ok (.iaload, 1) := by decide +kernel
theorem dX2_sort_89 : decode cX2_sort 89 = .ok (.iload 5, 2) := by decide +kernel
theorem dX2_sort_91 : decode cX2_sort 91 = .ok (.if_icmp .le 25, 3) := by decide +kernel
theorem dX2_sort_94 : decode cX2_sort 94 = .ok (.aload_n 0, 1) := by decide +kernel
theorem dX2_sort_95 : decode cX2_sort 95 = .ok (.getfield 27, 3) := by decide +kernel
theorem dX2_sort_98 : decode cX2_sort 98 = .ok (.iload 6, 2) := by decide +kernel
theorem dX2_sort_100 : decode cX2_sort 100 = .ok (.aload_n 0, 1) := by decide +kernel
theorem dX2_sort_101 : decode cX2_sort 101 = .ok (.getfield 27, 3) := by decide +kernel
theorem dX2_sort_104 : decode cX2_sort 104 = .ok (.iload 6, 2) := by decide +kernel
theorem dX2_sort_106 : decode cX2_sort 106 = .ok (.iconst 1, 1) := by decide +kernel
theorem dX2_sort_107 : decode cX2_sort 107 = .ok (.isub, 1) := by decide +kernel
theorem dX2_sort_108 : decode cX2_sort 108 = .ok (.iaload, 1) := by decide +kernel
theorem dX2_sort_109 : decode cX2_sort 109 = .ok (.iastore, 1) := by decide +kernel
theorem dX2_sort_110 : decode cX2_sort 110 = .ok (.iinc 6 (-1), 3) := by decide +kernel
theorem dX2_sort_113 : decode cX2_sort 113 = .ok (.goto (-87), 3) := by decide +kernel
theorem dX2_sort_116 : decode cX2_sort 116 = .ok (.aload_n 0, 1) := by decide +kernel
theorem dX2_sort_117 : decode cX2_sort 117 = .ok (.getfield 27, 3) := by decide +kernel
theorem dX2_sort_120 : decode cX2_sort 120 = .ok (.iload 6, 2) := by decide +kernel
theorem dX2_sort_122 : decode cX2_sort 122 = .ok (.iload 5, 2) := by decide +kernel
theorem dX2_sort_124 : decode cX2_sort 124 = .ok (.iastore, 1) := by decide +kernel
theorem dX2_sort_125 : decode cX2_sort 125 = .ok (.iinc 4 1, 3) := by decide +kernel
theorem dX2_sort_128 : decode cX2_sort 128 = .ok (.goto (-123), 3) := by decide +kernel
theorem dX2_sort_131 : decode cX2_sort 131 = .ok (.return_, 1) := by decide +kernel
set_option maxRecDepth 20000 in
theorem ggX2_build_X2_await : GoodIn wsX2_build wsX2_await := goodIn_r _ [20, 9, 7, 11, 13, 15, 42, 43, 44, 45, 46, 47, 48, 49, 50, 51, 52, 53, 54, 55, 56, 57, 58, 59, 60, 61, 62, 63, 64, 65, 66, 67, 68] (by decide +kernel) (by decide +kernel)
set_option maxRecDepth 20000 in
theorem gX2_build_X2_await : GoodIn wsX2_build (wsV RX2 118 RX2 yX2_await wsX2_await) := goodIn_app (goodIn_of _ (by decide +kernel)) ggX2_build_X2_await
set_option maxRecDepth 20000 in
theorem ggX2_build_X2_look : GoodIn wsX2_build wsX2_look := goodIn_r _ [24, 25, 26, 27, 28, 29, 8, 10, 5, 30, 31, 32, 33, 34, 35, 36, 19, 37, 42, 43, 44, 45, 46, 47, 48, 49, 50, 51, 52, 53, 54, 55, 56, 57, 58, 59, 60, 61, 62, 63, 64, 65, 66, 67, 68] (by decide +kernel) (by decide +kernel)
set_option maxRecDepth 20000 in
theorem gX2_build_X2_look : GoodIn wsX2_build (wsV RX2 122 RX2 yX2_look wsX2_look) := goodIn_app (goodIn_of _ (by decide +kernel)) ggX2_build_X2_look
set_option maxRecDepth 20000 in
theorem ggX2_build_X2_sort : GoodIn wsX2_build wsX2_sort := goodIn_r _ [41, 5, 34, 35, 36, 19, 37, 30, 31, 42, 43, 44, 45, 46, 47, 48, 49, 50, 51, 52, 53, 54, 55, 56, 57, 58, 59, 60, 61, 62, 63, 64, 65, 66, 67, 68] (by decide +kernel) (by decide +kernel)
set_option maxRecDepth 20000 in
theorem gX2_build_X2_sort : GoodIn wsX2_build (wsV RX2 126 RX2 yX2_sort wsX2_sort) := goodIn_app (goodIn_of _ (by decide +kernel)) ggX2_build_X2_sort
theorem dX2_build_0 : decode cX2_build 0 = .ok (.aload_n 0, 1) := by decide +kernel
theorem dX2_build_1 : decode cX2_build 1 = .ok (.iconst 0, 1) := by decide +kernel
theorem dX2_build_2 : decode cX2_build 2 = .ok (.putfield 69, 3) := by decide +kernel
theorem dX2_build_5 : decode cX2_build 5 = .ok (.iconst 0, 1) := by decide +kernel
theorem dX2_build_6 : decode cX2_build 6 = .ok (.istore_n 1, 1) := by decide +kernel
theorem dX2_build_7 : decode cX2_build 7 = .ok (.iconst 0, 1) := by decide +kernel
theorem dX2_build_8 : decode cX2_build 8 = .ok (.istore_n 2, 1) := by decide +kernel
theorem dX2_build_9 : decode cX2_build 9 = .ok (.iload_n 2, 1) := by decide +kernel
theorem dX2_build_10 : decode cX2_build 10 = .ok (.aload_n 0, 1) := by decide +kernel
theorem dX2_build_11 : decode cX2_build 11 = .ok (.getfield 72, 3) := by decide +kernel
theorem dX2_build_14 : decode cX2_build 14 = .ok (.if_icmp .ge 40, 3) := by decide +kernel
theorem dX2_build_17 : decode cX2_build 17 = .ok (.aload_n 0, 1) := by decide +kernel
theorem dX2_build_18 : decode cX2_build 18 = .ok (.getfield 24, 3) := by decide +kernel
theorem dX2_build_21 : decode cX2_build 21 = .ok (.iload_n 2, 1) := by decide +kernel
theorem dX2_build_22 : decode cX2_build 22 = .ok (.aload_n 0, 1) := by decide +kernel
theorem dX2_build_23 : decode cX2_build 23 = .ok (.getfield 13, 3) := by decide +kernel
theorem dX2_build_26 : decode cX2_build 26 = .ok (.iload_n 2, 1) := by decide +kernel
theorem dX2_build_27 : decode cX2_build 27 = .ok (.baload, 1) := by decide +kernel
theorem dX2_build_28 : decode cX2_build 28 = .ok (.bastore, 1) := by decide +kernel
theorem dX2_build_29 : decode cX2_build 29 = .ok (.aload_n 0, 1) := by decide +kernel
theorem dX2_build_30 : decode cX2_build 30 = .ok (.getfield 13, 3) := by decide +kernel
theorem dX2_build_33 : decode cX2_build 33 = .ok (.iload_n 2, 1) := by decide +kernel
theorem dX2_build_34 : decode cX2_build 34 = .ok (.baload, 1) := by decide +kernel
theorem dX2_build_35 : decode cX2_build 35 = .ok (.ifCond .eq 13, 3) := by decide +kernel
theorem dX2_build_38 : decode cX2_build 38 = .ok (.aload_n 0, 1) := by decide +kernel
theorem dX2_build_39 : decode cX2_build 39 = .ok (.getfield 27, 3) := by decide +kernel
theorem dX2_build_42 : decode cX2_build 42 = .ok (.iload_n 1, 1) := by decide +kernel
theorem dX2_build_43 : decode cX2_build 43 = .ok (.iload_n 2, 1) := by decide +kernel
theorem dX2_build_44 : decode cX2_build 44 = .ok (.iastore, 1) := by decide +kernel
theorem dX2_build_45 : decode cX2_build 45 = .ok (.iinc 1 1, 3) := by decide +kernel
theorem dX2_build_48 : decode cX2_build 48 = .ok (.iinc 2 1, 3) := by decide +kernel
theorem dX2_build_51 : decode cX2_build 51 = .ok (.goto (-42), 3) := by decide +kernel
theorem dX2_build_54 : decode cX2_build 54 = .ok (.aload_n 0, 1) := by decide +kernel
theorem dX2_build_55 : decode cX2_build 55 = .ok (.iconst 0, 1) := by decide +kernel
theorem dX2_build_56 : decode cX2_build 56 = .ok (.putfield 77, 3) := by decide +kernel
theorem dX2_build_59 : decode cX2_build 59 = .ok (.aload_n 0, 1) := by decide +kernel
theorem dX2_build_60 : decode cX2_build 60 = .ok (.iconst 0, 1) := by decide +kernel
theorem dX2_build_61 : decode cX2_build 61 = .ok (.putfield 109, 3) := by decide +kernel
theorem dX2_build_64 : decode cX2_build 64 = .ok (.iload_n 1, 1) := by decide +kernel
theorem dX2_build_65 : decode cX2_build 65 = .ok (.ifCond .le 11, 3) := by decide +kernel
theorem dX2_build_68 : decode cX2_build 68 = .ok (.aload_n 0, 1) := by decide +kernel
theorem dX2_build_69 : decode cX2_build 69 = .ok (.iconst 0, 1) := by decide +kernel
theorem dX2_build_70 : decode cX2_build 70 = .ok (.iload_n 1, 1) := by decide +kernel
theorem dX2_build_71 : decode cX2_build 71 = .ok (.iconst 0, 1) := by decide +kernel
theorem dX2_build_72 : decode cX2_build 72 = .ok (.iconst (-1), 1) := by decide +kernel
theorem dX2_build_73 : decode cX2_build 73 = .ok (.invokevirtual 118, 3) := by decide +kernel
theorem dX2_build_76 : decode cX2_build 76 = .ok (.aload_n 0, 1) := by decide +kernel
theorem dX2_build_77 : decode cX2_build 77 = .ok (.getfield 109, 3) := by decide +kernel
theorem dX2_build_80 : decode cX2_build 80 = .ok (.ifCond .le 207, 3) := by decide +kernel
theorem dX2_build_83 : decode cX2_build 83 = .ok (.aload_n 0, 1) := by decide +kernel
theorem dX2_build_84 : decode cX2_build 84 = .ok (.dup, 1) := by decide +kernel
theorem dX2_build_85 : decode cX2_build 85 = .ok (.getfield 109, 3) := by decide +kernel
theorem dX2_build_88 : decode cX2_build 88 = .ok (.iconst 1, 1) := by decide +kernel
theorem dX2_build_89 : decode cX2_build 89 = .ok (.isub, 1) := by decide +kernel
theorem dX2_build_90 : decode cX2_build 90 = .ok (.putfield 109, 3) := by decide +kernel
theorem dX2_build_93 : decode cX2_build 93 = .ok (.aload_n 0, 1) := by decide +kernel
theorem dX2_build_94 : decode cX2_build 94 = .ok (.getfield 77, 3) := by decide +kernel
theorem dX2_build_97 : decode cX2_build 97 = .ok (.istore_n 2, 1) := by decide +kernel
theorem dX2_build_98 : decode cX2_build 98 = .ok (.aload_n 0, 1) := by decide +kernel
theorem dX2_build_99 : decode cX2_build 99 = .ok (.dup, 1) := by decide +kernel
theorem dX2_build_100 : decode cX2_build 100 = .ok (.getfield 77, 3) := by decide +kernel
theorem dX2_build_103 : decode cX2_build 103 = .ok (.iconst 1, 1) := by decide +kernel
theorem dX2_build_104 : decode cX2_build 104 = .ok (.iadd, 1) := by decide +kernel
theorem dX2_build_105 : decode cX2_build 105 = .ok (.putfield 77, 3) := by decide +kernel
theorem dX2_build_108 : decode cX2_build 108 = .ok (.aload_n 0, 1) := by decide +kernel
theorem dX2_build_109 : decode cX2_build 109 = .ok (.getfield 30, 3) := by decide +kernel
theorem dX2_build_112 : decode cX2_build 112 = .ok (.iload_n 2, 1) := by decide +kernel
theorem dX2_build_113 : decode cX2_build 113 = .ok (.aload_n 0, 1) := by decide +kernel
theorem dX2_build_114 : decode cX2_build 114 = .ok (.getfield 48, 3) := by decide +kernel
theorem dX2_build_117 : decode cX2_build 117 = .ok (.aload_n 0, 1) := by decide +kernel
theorem dX2_build_118 : decode cX2_build 118 = .ok (.getfield 109, 3) := by decide +kernel
theorem dX2_build_121 : decode cX2_build 121 = .ok (.iaload, 1) := by decide +kernel
theorem dX2_build_122 : decode cX2_build 122 = .ok (.iastore, 1) := by decide +kernel
theorem dX2_build_123 : decode cX2_build 123 = .ok (.aload_n 0, 1) := by decide +kernel
theorem dX2_build_124 : decode cX2_build 124 = .ok (.getfield 33, 3) := by decide +kernel
theorem dX2_build_127 : decode cX2_build 127 = .ok (.iload_n 2, 1) := by decide +kernel
theorem dX2_build_128 : decode cX2_build 128 = .ok (.aload_n 0, 1) := by decide +kernel
theorem dX2_build_129 : decode cX2_build 129 = .ok (.getfield 51, 3) := by decide +kernel
theorem dX2_build_132 : decode cX2_build 132 = .ok (.aload_n 0, 1) := by decide +kernel
theorem dX2_build_133 : decode cX2_build 133 = .ok (.getfield 109, 3) := by decide +kernel
theorem dX2_build_136 : decode cX2_build 136 = .ok (.iaload, 1) := by decide +kernel
theorem dX2_build_137 : decode cX2_build 137 = .ok (.iastore, 1) := by decide +kernel
theorem dX2_build_138 : decode cX2_build 138 = .ok (.aload_n 0, 1) := by decide +kernel
theorem dX2_build_139 : decode cX2_build 139 = .ok (.getfield 39, 3) := by decide +kernel
theorem dX2_build_142 : decode cX2_build 142 = .ok (.iload_n 2, 1) := by decide +kernel
theorem dX2_build_143 : decode cX2_build 143 = .ok (.aload_n 0, 1) := by decide +kernel
theorem dX2_build_144 : decode cX2_build 144 = .ok (.getfield 54, 3) := by decide +kernel
theorem dX2_build_147 : decode cX2_build 147 = .ok (.aload_n 0, 1) := by decide +kernel
theorem dX2_build_148 : decode cX2_build 148 = .ok (.getfield 109, 3) := by decide +kernel
theorem dX2_build_151 : decode cX2_build 151 = .ok (.iaload, 1) := by decide +kernel
theorem dX2_build_152 : decode cX2_build 152 = .ok (.iastore, 1) := by decide +kernel
theorem dX2_build_153 : decode cX2_build 153 = .ok (.aload_n 0, 1) := by decide +kernel
theorem dX2_build_154 : decode cX2_build 154 = .ok (.getfield 36, 3) := by decide +kernel
theorem dX2_build_157 : decode cX2_build 157 = .ok (.iload_n 2, 1) := by decide +kernel
theorem dX2_build_158 : decode cX2_build 158 = .ok (.iconst 0, 1) := by decide +kernel
theorem dX2_build_159 : decode cX2_build 159 = .ok (.iastore, 1) := by decide +kernel
theorem dX2_build_160 : decode cX2_build 160 = .ok (.aload_n 0, 1) := by decide +kernel
theorem dX2_build_161 : decode cX2_build 161 = .ok (.getfield 57, 3) := by decide +kernel
theorem dX2_build_164 : decode cX2_build 164 = .ok (.aload_n 0, 1) := by decide +kernel
theorem dX2_build_165 : decode cX2_build 165 = .ok (.getfield 109, 3) := by decide +kernel
theorem dX2_build_168 : decode cX2_build 168 = .ok (.iaload, 1) := by decide +kernel
theorem dX2_build_169 : decode cX2_build 169 = .ok (.ifCond .lt 18, 3) := by decide +kernel
theorem dX2_build_172 : decode cX2_build 172 = .ok (.aload_n 0, 1) := by decide +kernel
theorem dX2_build_173 : decode cX2_build 173 = .ok (.getfield 36, 3) := by decide +kernel
theorem dX2_build_176 : decode cX2_build 176 = .ok (.aload_n 0, 1) := by decide +kernel
theorem dX2_build_177 : decode cX2_build 177 = .ok (.getfield 57, 3) := by decide +kernel
theorem dX2_build_180 : decode cX2_build 180 = .ok (.aload_n 0, 1) := by decide +kernel
theorem dX2_build_181 : decode cX2_build 181 = .ok (.getfield 109, 3) := by decide +kernel
theorem dX2_build_184 : decode cX2_build 184 = .ok (.iaload, 1) := by decide +kernel
theorem dX2_build_185 : decode cX2_build 185 = .ok (.iload_n 2, 1) := by decide +kernel
theorem dX2_build_186 : decode cX2_build 186 = .ok (.iastore, 1) := by decide +kernel
theorem dX2_build_187 : decode cX2_build 187 = .ok (.aload_n 0, 1) := by decide +kernel
theorem dX2_build_188 : decode cX2_build 188 = .ok (.iload_n 2, 1) := by decide +kernel
theorem dX2_build_189 : decode cX2_build 189 = .ok (.invokevirtual 122, 3) := by decide +kernel
theorem dX2_build_192 : decode cX2_build 192 = .ok (.istore_n 3, 1) := by decide +kernel
theorem dX2_build_193 : decode cX2_build 193 = .ok (.aload_n 0, 1) := by decide +kernel
theorem dX2_build_194 : decode cX2_build 194 = .ok (.getfield 33, 3) := by decide +kernel
theorem dX2_build_197 : decode cX2_build 197 = .ok (.iload_n 2, 1) := by decide +kernel
theorem dX2_build_198 : decode cX2_build 198 = .ok (.iaload, 1) := by decide +kernel
theorem dX2_build_199 : decode cX2_build 199 = .ok (.iconst 4, 1) := by decide +kernel
theorem dX2_build_200 : decode cX2_build 200 = .ok (.if_icmp .le 84, 3) := by decide +kernel
theorem dX2_build_203 : decode cX2_build 203 = .ok (.aload_n 0, 1) := by decide +kernel
theorem dX2_build_204 : decode cX2_build 204 = .ok (.aload_n 0, 1) := by decide +kernel
theorem dX2_build_205 : decode cX2_build 205 = .ok (.getfield 30, 3) := by decide +kernel
theorem dX2_build_208 : decode cX2_build 208 = .ok (.iload_n 2, 1) := by decide +kernel
theorem dX2_build_209 : decode cX2_build 209 = .ok (.iaload, 1) := by decide +kernel
theorem dX2_build_210 : decode cX2_build 210 = .ok (.aload_n 0, 1) := by decide +kernel
theorem dX2_build_211 : decode cX2_build 211 = .ok (.getfield 33, 3) := by decide +kernel
theorem dX2_build_214 : decode cX2_build 214 = .ok (.iload_n 2, 1) := by decide +kernel
theorem dX2_build_215 : decode cX2_build 215 = .ok (.iaload, 1) := by decide +kernel
theorem dX2_build_216 : decode cX2_build 216 = .ok (.iload_n 3, 1) := by decide +kernel
theorem dX2_build_217 : decode cX2_build 217 = .ok (.invokevirtual 126, 3) := by decide +kernel
theorem dX2_build_220 : decode cX2_build 220 = .ok (.aload_n 0, 1) := by decide +kernel
theorem dX2_build_221 : decode cX2_build 221 = .ok (.getfield 33, 3) := by decide +kernel
theorem dX2_build_224 : decode cX2_build 224 = .ok (.iload_n 2, 1) := by decide +kernel
theorem dX2_build_225 : decode cX2_build 225 = .ok (.iaload, 1) := by decide +kernel
theorem dX2_build_226 : decode cX2_build 226 = .ok (.iconst 1, 1) := by decide +kernel
theorem dX2_build_227 : decode cX2_build 227 = .ok (.iadd, 1) := by decide +kernel
theorem dX2_build_228 : decode cX2_build 228 = .ok (.iconst 2, 1) := by decide +kernel
theorem dX2_build_229 : decode cX2_build 229 = .ok (.idiv, 1) := by decide +kernel
theorem dX2_build_230 : decode cX2_build 230 = .ok (.istore 4, 2) := by decide +kernel
theorem dX2_build_232 : decode cX2_build 232 = .ok (.aload_n 0, 1) := by decide +kernel
theorem dX2_build_233 : decode cX2_build 233 = .ok (.aload_n 0, 1) := by decide +kernel
theorem dX2_build_234 : decode cX2_build 234 = .ok (.getfield 30, 3) := by decide +kernel
theorem dX2_build_237 : decode cX2_build 237 = .ok (.iload_n 2, 1) := by decide +kernel
theorem dX2_build_238 : decode cX2_build 238 = .ok (.iaload, 1) := by decide +kernel
theorem dX2_build_239 : decode cX2_build 239 = .ok (.iload 4, 2) := by decide +kernel
theorem dX2_build_241 : decode cX2_build 241 = .ok (.iadd, 1) := by decide +kernel
theorem dX2_build_242 : decode cX2_build 242 = .ok (.aload_n 0, 1) := by decide +kernel
theorem dX2_build_243 : decode cX2_build 243 = .ok (.getfield 33, 3) := by decide +kernel
theorem dX2_build_246 : decode cX2_build 246 = .ok (.iload_n 2, 1) := by decide +kernel
theorem dX2_build_247 : decode cX2_build 247 = .ok (.iaload, 1) := by decide +kernel
theorem dX2_build_248 : decode cX2_build 248 = .ok (.iload 4, 2) := by decide +kernel
theorem dX2_build_250 : decode cX2_build 250 = .ok (.isub, 1) := by decide +kernel
theorem dX2_build_251 : decode cX2_build 251 = .ok (.aload_n 0, 1) := by decide +kernel
theorem dX2_build_252 : decode cX2_build 252 = .ok (.getfield 39, 3) := by decide +kernel
theorem dX2_build_255 : decode cX2_build 255 = .ok (.iload_n 2, 1) := by decide +kernel
theorem dX2_build_256 : decode cX2_build 256 = .ok (.iaload, 1) := by decide +kernel
theorem dX2_build_257 : decode cX2_build 257 = .ok (.iconst 1, 1) := by decide +kernel
theorem dX2_build_258 : decode cX2_build 258 = .ok (.iadd, 1) := by decide +kernel
theorem dX2_build_259 : decode cX2_build 259 = .ok (.iload_n 2, 1) := by decide +kernel
theorem dX2_build_260 : decode cX2_build 260 = .ok (.invokevirtual 118, 3) := by decide +kernel
theorem dX2_build_263 : decode cX2_build 263 = .ok (.aload_n 0, 1) := by decide +kernel
theorem dX2_build_264 : decode cX2_build 264 = .ok (.aload_n 0, 1) := by decide +kernel
theorem dX2_build_265 : decode cX2_build 265 = .ok (.getfield 30, 3) := by decide +kernel
theorem dX2_build_268 : decode cX2_build 268 = .ok (.iload_n 2, 1) := by decide +kernel
theorem dX2_build_269 : decode cX2_build 269 = .ok (.iaload, 1) := by decide +kernel
theorem dX2_build_270 : decode cX2_build 270 = .ok (.iload 4, 2) := by decide +kernel
theorem dX2_build_272 : decode cX2_build 272 = .ok (.aload_n 0, 1) := by decide +kernel
theorem dX2_build_273 : decode cX2_build 273 = .ok (.getfield 39, 3) := by decide +kernel
theorem dX2_build_276 : decode cX2_build 276 = .ok (.iload_n 2, 1) := by decide +kernel
theorem dX2_build_277 : decode cX2_build 277 = .ok (.iaload, 1) := by decide +kernel
theorem dX2_build_278 : decode cX2_build 278 = .ok (.iconst 1, 1) := by decide +kernel
theorem dX2_build_279 : decode cX2_build 279 = .ok (.iadd, 1) := by decide +kernel
theorem dX2_build_280 : decode cX2_build 280 = .ok (.iconst (-1), 1) := by decide +kernel
theorem dX2_build_281 : decode cX2_build 281 = .ok (.invokevirtual 118, 3) := by decide +kernel
theorem dX2_build_284 : decode cX2_build 284 = .ok (.goto (-208), 3) := by decide +kernel
theorem dX2_build_287 : decode cX2_build 287 = .ok (.aload_n 0, 1) := by decide +kernel
theorem dX2_build_288 : decode cX2_build 288 = .ok (.getfield 77, 3) := by decide +kernel
theorem dX2_build_291 : decode cX2_build 291 = .ok (.ireturn, 1) := by decide +kernel
theorem dX2_isBlock_0 : decode cX2_isBlock 0 = .ok (.iload_n 1, 1) := by decide +kernel
theorem dX2_isBlock_1 : decode cX2_isBlock 1 = .ok (.ifCond .lt 15, 3) := by decide +kernel
theorem dX2_isBlock_4 : decode cX2_isBlock 4 = .ok (.iload_n 1, 1) := by decide +kernel
theorem dX2_isBlock_5 : decode cX2_isBlock 5 = .ok (.aload_n 0, 1) := by decide +kernel
theorem dX2_isBlock_6 : decode cX2_isBlock 6 = .ok (.getfield 77, 3) := by decide +kernel
theorem dX2_isBlock_9 : decode cX2_isBlock 9 = .ok (.if_icmp .ge 7, 3) := by decide +kernel
theorem dX2_isBlock_12 : decode cX2_isBlock 12 = .ok (.iconst 1, 1) := by decide +kernel
theorem dX2_isBlock_13 : decode cX2_isBlock 13 = .ok (.goto 4, 3) := by decide +kernel
theorem dX2_isBlock_16 : decode cX2_isBlock 16 = .ok (.iconst 0, 1) := by decide +kernel
theorem dX2_isBlock_17 : decode cX2_isBlock 17 = .ok (.ireturn, 1) := by decide +kernel
set_option maxRecDepth 20000 in
theorem ggX2_block_X2_isBlock : GoodIn wsX2_block wsX2_isBlock := goodIn_r _ [9, 10, 11, 12, 13, 14, 15, 16, 17, 18, 19, 20, 21, 22, 23, 24, 25, 26, 27, 28, 29, 30, 31, 32, 33, 34, 35, 36, 37] (by decide +kernel) (by decide +kernel)
set_option maxRecDepth 20000 in
theorem gX2_block_X2_isBlock : GoodIn wsX2_block (wsV RX2 130 RX2 yX2_isBlock wsX2_isBlock) := goodIn_app (goodIn_of _ (by decide +kernel)) ggX2_block_X2_isBlock
theorem dX2_block_0 : decode cX2_block 0 = .ok (.aload_n 0, 1) := by decide +kernel
theorem dX2_block_1 : decode cX2_block 1 = .ok (.iconst 0, 1) := by decide +kernel
theorem dX2_block_2 : decode cX2_block 2 = .ok (.putfield 69, 3) := by decide +kernel
theorem dX2_block_5 : decode cX2_block 5 = .ok (.aload_n 0, 1) := by decide +kernel
theorem dX2_block_6 : decode cX2_block 6 = .ok (.iload_n 1, 1) := by decide +kernel
theorem dX2_block_7 : decode cX2_block 7 = .ok (.invokevirtual 130, 3) := by decide +kernel
theorem dX2_block_10 : decode cX2_block 10 = .ok (.ifCond .ne 5, 3) := by decide +kernel
theorem dX2_block_13 : decode cX2_block 13 = .ok (.iconst (-1), 1) := by decide +kernel
theorem dX2_block_14 : decode cX2_block 14 = .ok (.ireturn, 1) := by decide +kernel
theorem dX2_block_15 : decode cX2_block 15 = .ok (.iload_n 2, 1) := by decide +kernel
theorem dX2_block_16 : decode cX2_block 16 = .ok (.tableswitch 69 0 3 #[32, 48, 55, 62], 32) := by decide +kernel
theorem dX2_block_48 : decode cX2_block 48 = .ok (.aload_n 0, 1) := by decide +kernel
theorem dX2_block_49 : decode cX2_block 49 = .ok (.getfield 33, 3) := by decide +kernel
theorem dX2_block_52 : decode cX2_block 52 = .ok (.iload_n 1, 1) := by decide +kernel
theorem dX2_block_53 : decode cX2_block 53 = .ok (.iaload, 1) := by decide +kernel
theorem dX2_block_54 : decode cX2_block 54 = .ok (.iconst 4, 1) := by decide +kernel
theorem dX2_block_55 : decode cX2_block 55 = .ok (.if_icmp .le 7, 3) := by decide +kernel
theorem dX2_block_58 : decode cX2_block 58 = .ok (.iconst 1, 1) := by decide +kernel
theorem dX2_block_59 : decode cX2_block 59 = .ok (.goto 4, 3) := by decide +kernel
theorem dX2_block_62 : decode cX2_block 62 = .ok (.iconst 0, 1) := by decide +kernel
theorem dX2_block_63 : decode cX2_block 63 = .ok (.ireturn, 1) := by decide +kernel
theorem dX2_block_64 : decode cX2_block 64 = .ok (.aload_n 0, 1) := by decide +kernel
theorem dX2_block_65 : decode cX2_block 65 = .ok (.getfield 33, 3) := by decide +kernel
theorem dX2_block_68 : decode cX2_block 68 = .ok (.iload_n 1, 1) := by decide +kernel
theorem dX2_block_69 : decode cX2_block 69 = .ok (.iaload, 1) := by decide +kernel
theorem dX2_block_70 : decode cX2_block 70 = .ok (.ireturn, 1) := by decide +kernel
theorem dX2_block_71 : decode cX2_block 71 = .ok (.aload_n 0, 1) := by decide +kernel
theorem dX2_block_72 : decode cX2_block 72 = .ok (.getfield 36, 3) := by decide +kernel
theorem dX2_block_75 : decode cX2_block 75 = .ok (.iload_n 1, 1) := by decide +kernel
theorem dX2_block_76 : decode cX2_block 76 = .ok (.iaload, 1) := by decide +kernel
theorem dX2_block_77 : decode cX2_block 77 = .ok (.ireturn, 1) := by decide +kernel
theorem dX2_block_78 : decode cX2_block 78 = .ok (.aload_n 0, 1) := by decide +kernel
theorem dX2_block_79 : decode cX2_block 79 = .ok (.getfield 39, 3) := by decide +kernel
theorem dX2_block_82 : decode cX2_block 82 = .ok (.iload_n 1, 1) := by decide +kernel
theorem dX2_block_83 : decode cX2_block 83 = .ok (.iaload, 1) := by decide +kernel
theorem dX2_block_84 : decode cX2_block 84 = .ok (.ireturn, 1) := by decide +kernel
theorem dX2_block_85 : decode cX2_block 85 = .ok (.bipush (-2), 2) := by decide +kernel
theorem dX2_block_87 : decode cX2_block 87 = .ok (.ireturn, 1) := by decide +kernel
set_option maxRecDepth 20000 in
theorem ggX2_bound_X2_isBlock : GoodIn wsX2_bound wsX2_isBlock := goodIn_r _ [10, 11, 12, 13, 14, 15, 16, 17, 18, 19, 20, 21, 22, 23, 24, 25, 26, 27, 28, 29, 30, 31, 32, 33, 34, 35, 36, 37, 38] (by decide +kernel) (by decide +kernel)
set_option maxRecDepth 20000 in
theorem gX2_bound_X2_isBlock : GoodIn wsX2_bound (wsV RX2 130 RX2 yX2_isBlock wsX2_isBlock) := goodIn_app (goodIn_of _ (by decide +kernel)) ggX2_bound_X2_isBlock
theorem dX2_bound_0 : decode cX2_bound 0 = .ok (.aload_n 0, 1) := by decide +kernel
theorem dX2_bound_1 : decode cX2_bound 1 = .ok (.iconst 0, 1) := by decide +kernel
theorem dX2_bound_2 : decode cX2_bound 2 = .ok (.putfield 69, 3) := by decide +kernel
theorem dX2_bound_5 : decode cX2_bound 5 = .ok (.aload_n 0, 1) := by decide +kernel
theorem dX2_bound_6 : decode cX2_bound 6 = .ok (.iload_n 1, 1) := by decide +kernel
theorem dX2_bound_7 : decode cX2_bound 7 = .ok (.invokevirtual 130, 3) := by decide +kernel
theorem dX2_bound_10 : decode cX2_bound 10 = .ok (.ifCond .eq 24, 3) := by decide +kernel
theorem dX2_bound_13 : decode cX2_bound 13 = .ok (.iload_n 2, 1) := by decide +kernel
theorem dX2_bound_14 : decode cX2_bound 14 = .ok (.ifCond .lt 20, 3) := by decide +kernel
theorem dX2_bound_17 : decode cX2_bound 17 = .ok (.iload_n 2, 1) := by decide +kernel
theorem dX2_bound_18 : decode cX2_bound 18 = .ok (.aload_n 0, 1) := by decide +kernel
theorem dX2_bound_19 : decode cX2_bound 19 = .ok (.getfield 7, 3) := by decide +kernel
theorem dX2_bound_22 : decode cX2_bound 22 = .ok (.if_icmp .ge 12, 3) := by decide +kernel
theorem dX2_bound_25 : decode cX2_bound 25 = .ok (.iload_n 3, 1) := by decide +kernel
theorem dX2_bound_26 : decode cX2_bound 26 = .ok (.ifCond .lt 8, 3) := by decide +kernel
theorem dX2_bound_29 : decode cX2_bound 29 = .ok (.iload_n 3, 1) := by decide +kernel
theorem dX2_bound_30 : decode cX2_bound 30 = .ok (.iconst 1, 1) := by decide +kernel
theorem dX2_bound_31 : decode cX2_bound 31 = .ok (.if_icmp .le 7, 3) := by decide +kernel
theorem dX2_bound_34 : decode cX2_bound 34 = .ok (.ldc2_w 107, 3) := by decide +kernel
theorem dX2_bound_37 : decode cX2_bound 37 = .ok (.lreturn, 1) := by decide +kernel
theorem dX2_bound_38 : decode cX2_bound 38 = .ok (.iload_n 3, 1) := by decide +kernel
theorem dX2_bound_39 : decode cX2_bound 39 = .ok (.ifCond .ne 17, 3) := by decide +kernel
theorem dX2_bound_42 : decode cX2_bound 42 = .ok (.aload_n 0, 1) := by decide +kernel
theorem dX2_bound_43 : decode cX2_bound 43 = .ok (.getfield 42, 3) := by decide +kernel
theorem dX2_bound_46 : decode cX2_bound 46 = .ok (.iconst 3, 1) := by decide +kernel
theorem dX2_bound_47 : decode cX2_bound 47 = .ok (.iload_n 1, 1) := by decide +kernel
theorem dX2_bound_48 : decode cX2_bound 48 = .ok (.imul, 1) := by decide +kernel
theorem dX2_bound_49 : decode cX2_bound 49 = .ok (.iload_n 2, 1) := by decide +kernel
theorem dX2_bound_50 : decode cX2_bound 50 = .ok (.iadd, 1) := by decide +kernel
theorem dX2_bound_51 : decode cX2_bound 51 = .ok (.iaload, 1) := by decide +kernel
theorem dX2_bound_52 : decode cX2_bound 52 = .ok (.i2l, 1) := by decide +kernel
theorem dX2_bound_53 : decode cX2_bound 53 = .ok (.goto 14, 3) := by decide +kernel
theorem dX2_bound_56 : decode cX2_bound 56 = .ok (.aload_n 0, 1) := by decide +kernel
theorem dX2_bound_57 : decode cX2_bound 57 = .ok (.getfield 45, 3) := by decide +kernel
theorem dX2_bound_60 : decode cX2_bound 60 = .ok (.iconst 3, 1) := by decide +kernel
theorem dX2_bound_61 : decode cX2_bound 61 = .ok (.iload_n 1, 1) := by decide +kernel
theorem dX2_bound_62 : decode cX2_bound 62 = .ok (.imul, 1) := by decide +kernel
theorem dX2_bound_63 : decode cX2_bound 63 = .ok (.iload_n 2, 1) := by decide +kernel
theorem dX2_bound_64 : decode cX2_bound 64 = .ok (.iadd, 1) := by decide +kernel
theorem dX2_bound_65 : decode cX2_bound 65 = .ok (.iaload, 1) := by decide +kernel
theorem dX2_bound_66 : decode cX2_bound 66 = .ok (.i2l, 1) := by decide +kernel
theorem dX2_bound_67 : decode cX2_bound 67 = .ok (.lreturn, 1) := by decide +kernel
theorem dX2_isSo_0 : decode cX2_isSo 0 = .ok (.iconst 1, 1) := by decide +kernel
theorem dX2_isSo_1 : decode cX2_isSo 1 = .ok (.istore 5, 2) := by decide +kernel
theorem dX2_isSo_3 : decode cX2_isSo 3 = .ok (.iconst 1, 1) := by decide +kernel
theorem dX2_isSo_4 : decode cX2_isSo 4 = .ok (.istore 6, 2) := by decide +kernel
theorem dX2_isSo_6 : decode cX2_isSo 6 = .ok (.iconst 1, 1) := by decide +kernel
theorem dX2_isSo_7 : decode cX2_isSo 7 = .ok (.istore 7, 2) := by decide +kernel
theorem dX2_isSo_9 : decode cX2_isSo 9 = .ok (.iconst 0, 1) := by decide +kernel
theorem dX2_isSo_10 : decode cX2_isSo 10 = .ok (.istore 8, 2) := by decide +kernel
theorem dX2_isSo_12 : decode cX2_isSo 12 = .ok (.iload 8, 2) := by decide +kernel
theorem dX2_isSo_14 : decode cX2_isSo 14 = .ok (.aload_n 0, 1) := by decide +kernel
theorem dX2_isSo_15 : decode cX2_isSo 15 = .ok (.getfield 7, 3) := by decide +kernel
theorem dX2_isSo_18 : decode cX2_isSo 18 = .ok (.if_icmp .ge 147, 3) := by decide +kernel
theorem dX2_isSo_21 : decode cX2_isSo 21 = .ok (.iload 5, 2) := by decide +kernel
theorem dX2_isSo_23 : decode cX2_isSo 23 = .ok (.ifCond .eq 41, 3) := by decide +kernel
theorem dX2_isSo_26 : decode cX2_isSo 26 = .ok (.aload_n 2, 1) := by decide +kernel
theorem dX2_isSo_27 : decode cX2_isSo 27 = .ok (.iload 4, 2) := by decide +kernel
theorem dX2_isSo_29 : decode cX2_isSo 29 = .ok (.iload 8, 2) := by decide +kernel
theorem dX2_isSo_31 : decode cX2_isSo 31 = .ok (.iadd, 1) := by decide +kernel
theorem dX2_isSo_32 : decode cX2_isSo 32 = .ok (.iaload, 1) := by decide +kernel
theorem dX2_isSo_33 : decode cX2_isSo 33 = .ok (.aload_n 0, 1) := by decide +kernel
theorem dX2_isSo_34 : decode cX2_isSo 34 = .ok (.getfield 63, 3) := by decide +kernel
theorem dX2_isSo_37 : decode cX2_isSo 37 = .ok (.iload 8, 2) := by decide +kernel
theorem dX2_isSo_39 : decode cX2_isSo 39 = .ok (.iaload, 1) := by decide +kernel
theorem dX2_isSo_40 : decode cX2_isSo 40 = .ok (.if_icmp .gt 24, 3) := by decide +kernel
theorem dX2_isSo_43 : decode cX2_isSo 43 = .ok (.aload_n 3, 1) := by decide +kernel
theorem dX2_isSo_44 : decode cX2_isSo 44 = .ok (.iload 4, 2) := by decide +kernel
theorem dX2_isSo_46 : decode cX2_isSo 46 = .ok (.iload 8, 2) := by decide +kernel
theorem dX2_isSo_48 : decode cX2_isSo 48 = .ok (.iadd, 1) := by decide +kernel
theorem dX2_isSo_49 : decode cX2_isSo 49 = .ok (.iaload, 1) := by decide +kernel
theorem dX2_isSo_50 : decode cX2_isSo 50 = .ok (.aload_n 0, 1) := by decide +kernel
theorem dX2_isSo_51 : decode cX2_isSo 51 = .ok (.getfield 60, 3) := by decide +kernel
theorem dX2_isSo_54 : decode cX2_isSo 54 = .ok (.iload 8, 2) := by decide +kernel
theorem dX2_isSo_56 : decode cX2_isSo 56 = .ok (.iaload, 1) := by decide +kernel
theorem dX2_isSo_57 : decode cX2_isSo 57 = .ok (.if_icmp .lt 7, 3) := by decide +kernel
theorem dX2_isSo_60 : decode cX2_isSo 60 = .ok (.iconst 1, 1) := by decide +kernel
theorem dX2_isSo_61 : decode cX2_isSo 61 = .ok (.goto 4, 3) := by decide +kernel
theorem dX2_isSo_64 : decode cX2_isSo 64 = .ok (.iconst 0, 1) := by decide +kernel
theorem dX2_isSo_65 : decode cX2_isSo 65 = .ok (.istore 5, 2) := by decide +kernel
theorem dX2_isSo_67 : decode cX2_isSo 67 = .ok (.iload 6, 2) := by decide +kernel
theorem dX2_isSo_69 : decode cX2_isSo 69 = .ok (.ifCond .eq 41, 3) := by decide +kernel
theorem dX2_isSo_72 : decode cX2_isSo 72 = .ok (.aload_n 2, 1) := by decide +kernel
theorem dX2_isSo_73 : decode cX2_isSo 73 = .ok (.iload 4, 2) := by decide +kernel
theorem dX2_isSo_75 : decode cX2_isSo 75 = .ok (.iload 8, 2) := by decide +kernel
theorem dX2_isSo_77 : decode cX2_isSo 77 = .ok (.iadd, 1) := by decide +kernel
theorem dX2_isSo_78 : decode cX2_isSo 78 = .ok (.iaload, 1) := by decide +kernel
theorem dX2_isSo_79 : decode cX2_isSo 79 = .ok (.aload_n 0, 1) := by decide +kernel
theorem dX2_isSo_80 : decode cX2_isSo 80 = .ok (.getfield 60, 3) := by decide +kernel
theorem dX2_isSo_83 : decode cX2_isSo 83 = .ok (.iload 8, 2) := by decide +kernel
theorem dX2_isSo_85 : decode cX2_isSo 85 = .ok (.iaload, 1) := by decide +kernel
theorem dX2_isSo_86 : decode cX2_isSo 86 = .ok (.if_icmp .lt 24, 3) := by decide +kernel
theorem dX2_isSo_89 : decode cX2_isSo 89 = .ok (.aload_n 3, 1) := by decide +kernel
theorem dX2_isSo_90 : decode cX2_isSo 90 = .ok (.iload 4, 2) := by decide +kernel
theorem dX2_isSo_92 : decode cX2_isSo 92 = .ok (.iload 8, 2) := by decide +kernel
theorem dX2_isSo_94 : decode cX2_isSo 94 = .ok (.iadd, 1) := by decide +kernel
theorem dX2_isSo_95 : decode cX2_isSo 95 = .ok (.iaload, 1) := by decide +kernel
theorem dX2_isSo_96 : decode cX2_isSo 96 = .ok (.aload_n 0, 1) := by decide +kernel
theorem dX2_isSo_97 : decode cX2_isSo 97 = .ok (.getfield 63, 3) := by decide +kernel
theorem dX2_isSo_100 : decode cX2_isSo 100 = .ok (.iload 8, 2) := by decide +kernel
theorem dX2_isSo_102 : decode cX2_isSo 102 = .ok (.iaload, 1) := by decide +kernel
theorem dX2_isSo_103 : decode cX2_isSo 103 = .ok (.if_icmp .gt 7, 3) := by decide +kernel
theorem dX2_isSo_106 : decode cX2_isSo 106 = .ok (.iconst 1, 1) := by decide +kernel
theorem dX2_isSo_107 : decode cX2_isSo 107 = .ok (.goto 4, 3) := by decide +kernel
theorem dX2_isSo_110 : decode cX2_isSo 110 = .ok (.iconst 0, 1) := by decide +kernel
theorem dX2_isSo_111 : decode cX2_isSo 111 = .ok (.istore 6, 2) := by decide +kernel
theorem dX2_isSo_113 : decode cX2_isSo 113 = .ok (.iload 7, 2) := by decide +kernel
theorem dX2_isSo_115 : decode cX2_isSo 115 = .ok (.ifCond .eq 41, 3) := by decide +kernel
theorem dX2_isSo_118 : decode cX2_isSo 118 = .ok (.aload_n 2, 1) := by decide +kernel
theorem dX2_isSo_119 : decode cX2_isSo 119 = .ok (.iload 4, 2) := by decide +kernel
theorem dX2_isSo_121 : decode cX2_isSo 121 = .ok (.iload 8, 2) := by decide +kernel
theorem dX2_isSo_123 : decode cX2_isSo 123 = .ok (.iadd, 1) := by decide +kernel
theorem dX2_isSo_124 : decode cX2_isSo 124 = .ok (.iaload, 1) := by decide +kernel
theorem dX2_isSo_125 : decode cX2_isSo 125 = .ok (.aload_n 0, 1) := by decide +kernel
theorem dX2_isSo_126 : decode cX2_isSo 126 = .ok (.getfield 60, 3) := by decide +kernel
theorem dX2_isSo_129 : decode cX2_isSo 129 = .ok (.iload 8, 2) := by decide +kernel
theorem dX2_isSo_131 : decode cX2_isSo 131 = .ok (.iaload, 1) := by decide +kernel
theorem dX2_isSo_132 : decode cX2_isSo 132 = .ok (.if_icmp .gt 24, 3) := by decide +kernel
theorem dX2_isSo_135 : decode cX2_isSo 135 = .ok (.aload_n 3, 1) := by decide +kernel
theorem dX2_isSo_136 : decode cX2_isSo 136 = .ok (.iload 4, 2) := by decide +kernel
theorem dX2_isSo_138 : decode cX2_isSo 138 = .ok (.iload 8, 2) := by decide +kernel
theorem dX2_isSo_140 : decode cX2_isSo 140 = .ok (.iadd, 1) := by decide +kernel
theorem dX2_isSo_141 : decode cX2_isSo 141 = .ok (.iaload, 1) := by decide +kernel
theorem dX2_isSo_142 : decode cX2_isSo 142 = .ok (.aload_n 0, 1) := by decide +kernel
theorem dX2_isSo_143 : decode cX2_isSo 143 = .ok (.getfield 63, 3) := by decide +kernel
theorem dX2_isSo_146 : decode cX2_isSo 146 = .ok (.iload 8, 2) := by decide +kernel
theorem dX2_isSo_148 : decode cX2_isSo 148 = .ok (.iaload, 1) := by decide +kernel
theorem dX2_isSo_149 : decode cX2_isSo 149 = .ok (.if_icmp .lt 7, 3) := by decide +kernel
theorem dX2_isSo_152 : decode cX2_isSo 152 = .ok (.iconst 1, 1) := by decide +kernel
theorem dX2_isSo_153 : decode cX2_isSo 153 = .ok (.goto 4, 3) := by decide +kernel
theorem dX2_isSo_156 : decode cX2_isSo 156 = .ok (.iconst 0, 1) := by decide +kernel
theorem dX2_isSo_157 : decode cX2_isSo 157 = .ok (.istore 7, 2) := by decide +kernel
theorem dX2_isSo_159 : decode cX2_isSo 159 = .ok (.iinc 8 1, 3) := by decide +kernel
theorem dX2_isSo_162 : decode cX2_isSo 162 = .ok (.goto (-150), 3) := by decide +kernel
theorem dX2_isSo_165 : decode cX2_isSo 165 = .ok (.iload_n 1, 1) := by decide +kernel
theorem dX2_isSo_166 : decode cX2_isSo 166 = .ok (.ifCond .ne 8, 3) := by decide +kernel
theorem dX2_isSo_169 : decode cX2_isSo 169 = .ok (.iload 5, 2) := by decide +kernel
theorem dX2_isSo_171 : decode cX2_isSo 171 = .ok (.goto 33, 3) := by decide +kernel
theorem dX2_isSo_174 : decode cX2_isSo 174 = .ok (.iload_n 1, 1) := by decide +kernel
theorem dX2_isSo_175 : decode cX2_isSo 175 = .ok (.iconst 1, 1) := by decide +kernel
theorem dX2_isSo_176 : decode cX2_isSo 176 = .ok (.if_icmp .ne 8, 3) := by decide +kernel
theorem dX2_isSo_179 : decode cX2_isSo 179 = .ok (.iload 6, 2) := by decide +kernel
theorem dX2_isSo_181 : decode cX2_isSo 181 = .ok (.goto 23, 3) := by decide +kernel
theorem dX2_isSo_184 : decode cX2_isSo 184 = .ok (.iload_n 1, 1) := by decide +kernel
theorem dX2_isSo_185 : decode cX2_isSo 185 = .ok (.iconst 2, 1) := by decide +kernel
theorem dX2_isSo_186 : decode cX2_isSo 186 = .ok (.if_icmp .ne 8, 3) := by decide +kernel
theorem dX2_isSo_189 : decode cX2_isSo 189 = .ok (.iload 7, 2) := by decide +kernel
theorem dX2_isSo_191 : decode cX2_isSo 191 = .ok (.goto 13, 3) := by decide +kernel
theorem dX2_isSo_194 : decode cX2_isSo 194 = .ok (.iload 5, 2) := by decide +kernel
theorem dX2_isSo_196 : decode cX2_isSo 196 = .ok (.ifCond .ne 7, 3) := by decide +kernel
theorem dX2_isSo_199 : decode cX2_isSo 199 = .ok (.iconst 1, 1) := by decide +kernel
theorem dX2_isSo_200 : decode cX2_isSo 200 = .ok (.goto 4, 3) := by decide +kernel
theorem dX2_isSo_203 : decode cX2_isSo 203 = .ok (.iconst 0, 1) := by decide +kernel
theorem dX2_isSo_204 : decode cX2_isSo 204 = .ok (.ireturn, 1) := by decide +kernel
set_option maxRecDepth 20000 in
theorem ggX2_tellsOf_X2_isSo : GoodIn wsX2_tellsOf wsX2_isSo := goodIn_r _ [7, 8, 9, 10, 11, 12, 13, 14, 15, 16, 17, 18, 19, 20, 21, 22, 23, 24, 25, 26, 27, 28, 29, 30, 31, 32, 33, 34, 35, 36, 37] (by decide +kernel) (by decide +kernel)
set_option maxRecDepth 20000 in
theorem gX2_tellsOf_X2_isSo : GoodIn wsX2_tellsOf (wsV RX2 133 RX2 yX2_isSo wsX2_isSo) := goodIn_app (goodIn_of _ (by decide +kernel)) ggX2_tellsOf_X2_isSo
theorem dX2_tellsOf_0 : decode cX2_tellsOf 0 = .ok (.iload_n 1, 1) := by decide +kernel
theorem dX2_tellsOf_1 : decode cX2_tellsOf 1 = .ok (.iconst 2, 1) := by decide +kernel
theorem dX2_tellsOf_2 : decode cX2_tellsOf 2 = .ok (.if_icmp .ne 28, 3) := by decide +kernel
theorem dX2_tellsOf_5 : decode cX2_tellsOf 5 = .ok (.aload_n 0, 1) := by decide +kernel
theorem dX2_tellsOf_6 : decode cX2_tellsOf 6 = .ok (.iconst 2, 1) := by decide +kernel
theorem dX2_tellsOf_7 : decode cX2_tellsOf 7 = .ok (.aload_n 0, 1) := by decide +kernel
theorem dX2_tellsOf_8 : decode cX2_tellsOf 8 = .ok (.getfield 42, 3) := by decide +kernel
theorem dX2_tellsOf_11 : decode cX2_tellsOf 11 = .ok (.aload_n 0, 1) := by decide +kernel
theorem dX2_tellsOf_12 : decode cX2_tellsOf 12 = .ok (.getfield 45, 3) := by decide +kernel
theorem dX2_tellsOf_15 : decode cX2_tellsOf 15 = .ok (.iconst 3, 1) := by decide +kernel
theorem dX2_tellsOf_16 : decode cX2_tellsOf 16 = .ok (.iload_n 2, 1) := by decide +kernel
theorem dX2_tellsOf_17 : decode cX2_tellsOf 17 = .ok (.imul, 1) := by decide +kernel
theorem dX2_tellsOf_18 : decode cX2_tellsOf 18 = .ok (.invokevirtual 133, 3) := by decide +kernel
theorem dX2_tellsOf_21 : decode cX2_tellsOf 21 = .ok (.ifCond .eq 7, 3) := by decide +kernel
theorem dX2_tellsOf_24 : decode cX2_tellsOf 24 = .ok (.iconst (-1), 1) := by decide +kernel
theorem dX2_tellsOf_25 : decode cX2_tellsOf 25 = .ok (.goto 4, 3) := by decide +kernel
theorem dX2_tellsOf_28 : decode cX2_tellsOf 28 = .ok (.iconst 0, 1) := by decide +kernel
theorem dX2_tellsOf_29 : decode cX2_tellsOf 29 = .ok (.ireturn, 1) := by decide +kernel
theorem dX2_tellsOf_30 : decode cX2_tellsOf 30 = .ok (.aload_n 0, 1) := by decide +kernel
theorem dX2_tellsOf_31 : decode cX2_tellsOf 31 = .ok (.iconst 3, 1) := by decide +kernel
theorem dX2_tellsOf_32 : decode cX2_tellsOf 32 = .ok (.aload_n 0, 1) := by decide +kernel
theorem dX2_tellsOf_33 : decode cX2_tellsOf 33 = .ok (.getfield 42, 3) := by decide +kernel
theorem dX2_tellsOf_36 : decode cX2_tellsOf 36 = .ok (.aload_n 0, 1) := by decide +kernel
theorem dX2_tellsOf_37 : decode cX2_tellsOf 37 = .ok (.getfield 45, 3) := by decide +kernel
theorem dX2_tellsOf_40 : decode cX2_tellsOf 40 = .ok (.iconst 3, 1) := by decide +kernel
theorem dX2_tellsOf_41 : decode cX2_tellsOf 41 = .ok (.iload_n 2, 1) := by decide +kernel
theorem dX2_tellsOf_42 : decode cX2_tellsOf 42 = .ok (.imul, 1) := by decide +kernel
theorem dX2_tellsOf_43 : decode cX2_tellsOf 43 = .ok (.invokevirtual 133, 3) := by decide +kernel
theorem dX2_tellsOf_46 : decode cX2_tellsOf 46 = .ok (.istore_n 3, 1) := by decide +kernel
theorem dX2_tellsOf_47 : decode cX2_tellsOf 47 = .ok (.aload_n 0, 1) := by decide +kernel
theorem dX2_tellsOf_48 : decode cX2_tellsOf 48 = .ok (.iconst 1, 1) := by decide +kernel
theorem dX2_tellsOf_49 : decode cX2_tellsOf 49 = .ok (.aload_n 0, 1) := by decide +kernel
theorem dX2_tellsOf_50 : decode cX2_tellsOf 50 = .ok (.getfield 42, 3) := by decide +kernel
theorem dX2_tellsOf_53 : decode cX2_tellsOf 53 = .ok (.aload_n 0, 1) := by decide +kernel
theorem dX2_tellsOf_54 : decode cX2_tellsOf 54 = .ok (.getfield 45, 3) := by decide +kernel
theorem dX2_tellsOf_57 : decode cX2_tellsOf 57 = .ok (.iconst 3, 1) := by decide +kernel
theorem dX2_tellsOf_58 : decode cX2_tellsOf 58 = .ok (.iload_n 2, 1) := by decide +kernel
theorem dX2_tellsOf_59 : decode cX2_tellsOf 59 = .ok (.imul, 1) := by decide +kernel
theorem dX2_tellsOf_60 : decode cX2_tellsOf 60 = .ok (.invokevirtual 133, 3) := by decide +kernel
theorem dX2_tellsOf_63 : decode cX2_tellsOf 63 = .ok (.istore 4, 2) := by decide +kernel
theorem dX2_tellsOf_65 : decode cX2_tellsOf 65 = .ok (.iload_n 1, 1) := by decide +kernel
theorem dX2_tellsOf_66 : decode cX2_tellsOf 66 = .ok (.iconst 3, 1) := by decide +kernel
theorem dX2_tellsOf_67 : decode cX2_tellsOf 67 = .ok (.if_icmp .ne 22, 3) := by decide +kernel
theorem dX2_tellsOf_70 : decode cX2_tellsOf 70 = .ok (.iload_n 3, 1) := by decide +kernel
theorem dX2_tellsOf_71 : decode cX2_tellsOf 71 = .ok (.ifCond .eq 7, 3) := by decide +kernel
theorem dX2_tellsOf_74 : decode cX2_tellsOf 74 = .ok (.iconst 1, 1) := by decide +kernel
theorem dX2_tellsOf_75 : decode cX2_tellsOf 75 = .ok (.goto 13, 3) := by decide +kernel
theorem dX2_tellsOf_78 : decode cX2_tellsOf 78 = .ok (.iload 4, 2) := by decide +kernel
theorem dX2_tellsOf_80 : decode cX2_tellsOf 80 = .ok (.ifCond .eq 7, 3) := by decide +kernel
theorem dX2_tellsOf_83 : decode cX2_tellsOf 83 = .ok (.iconst 0, 1) := by decide +kernel
theorem dX2_tellsOf_84 : decode cX2_tellsOf 84 = .ok (.goto 4, 3) := by decide +kernel
theorem dX2_tellsOf_87 : decode cX2_tellsOf 87 = .ok (.iconst (-1), 1) := by decide +kernel
theorem dX2_tellsOf_88 : decode cX2_tellsOf 88 = .ok (.ireturn, 1) := by decide +kernel
theorem dX2_tellsOf_89 : decode cX2_tellsOf 89 = .ok (.iload_n 3, 1) := by decide +kernel
theorem dX2_tellsOf_90 : decode cX2_tellsOf 90 = .ok (.ifCond .eq 7, 3) := by decide +kernel
theorem dX2_tellsOf_93 : decode cX2_tellsOf 93 = .ok (.iconst 0, 1) := by decide +kernel
theorem dX2_tellsOf_94 : decode cX2_tellsOf 94 = .ok (.goto 13, 3) := by decide +kernel
theorem dX2_tellsOf_97 : decode cX2_tellsOf 97 = .ok (.iload 4, 2) := by decide +kernel
theorem dX2_tellsOf_99 : decode cX2_tellsOf 99 = .ok (.ifCond .eq 7, 3) := by decide +kernel
theorem dX2_tellsOf_102 : decode cX2_tellsOf 102 = .ok (.iconst 1, 1) := by decide +kernel
theorem dX2_tellsOf_103 : decode cX2_tellsOf 103 = .ok (.goto 4, 3) := by decide +kernel
theorem dX2_tellsOf_106 : decode cX2_tellsOf 106 = .ok (.iconst (-1), 1) := by decide +kernel
theorem dX2_tellsOf_107 : decode cX2_tellsOf 107 = .ok (.ireturn, 1) := by decide +kernel
theorem dX2_find_0 : decode cX2_find 0 = .ok (.aload_n 0, 1) := by decide +kernel
theorem dX2_find_1 : decode cX2_find 1 = .ok (.getfield 66, 3) := by decide +kernel
theorem dX2_find_4 : decode cX2_find 4 = .ok (.iload_n 1, 1) := by decide +kernel
theorem dX2_find_5 : decode cX2_find 5 = .ok (.iconst 1, 1) := by decide +kernel
theorem dX2_find_6 : decode cX2_find 6 = .ok (.bastore, 1) := by decide +kernel
theorem dX2_find_7 : decode cX2_find 7 = .ok (.aload_n 0, 1) := by decide +kernel
theorem dX2_find_8 : decode cX2_find 8 = .ok (.dup, 1) := by decide +kernel
theorem dX2_find_9 : decode cX2_find 9 = .ok (.getfield 80, 3) := by decide +kernel
theorem dX2_find_12 : decode cX2_find 12 = .ok (.iconst 1, 1) := by decide +kernel
theorem dX2_find_13 : decode cX2_find 13 = .ok (.iadd, 1) := by decide +kernel
theorem dX2_find_14 : decode cX2_find 14 = .ok (.putfield 80, 3) := by decide +kernel
theorem dX2_find_17 : decode cX2_find 17 = .ok (.return_, 1) := by decide +kernel
set_option maxRecDepth 20000 in
theorem ggX2_range_X2_tells : GoodIn wsX2_range wsX2_tells := goodIn_r _ [21, 22, 23, 24, 25, 26, 20, 27, 28, 29, 44, 45, 46, 47, 48, 49, 50, 51, 52, 53, 54, 55, 56, 57, 58, 59, 60, 61, 62, 63, 64, 65, 66, 67, 68, 69, 70] (by decide +kernel) (by decide +kernel)
set_option maxRecDepth 20000 in
theorem gX2_range_X2_tells : GoodIn wsX2_range (wsV RX2 96 RX2 yX2_tells wsX2_tells) := goodIn_app (goodIn_of _ (by decide +kernel)) ggX2_range_X2_tells
set_option maxRecDepth 20000 in
theorem ggX2_range_X2_tellsOf : GoodIn wsX2_range wsX2_tellsOf := goodIn_r _ [33, 34, 35, 36, 37, 38, 20, 39, 22, 24, 23, 44, 45, 46, 47, 48, 49, 50, 51, 52, 53, 54, 55, 56, 57, 58, 59, 60, 61, 62, 63, 64, 65, 66, 67, 68, 69, 70] (by decide +kernel) (by decide +kernel)
set_option maxRecDepth 20000 in
theorem gX2_range_X2_tellsOf : GoodIn wsX2_range (wsV RX2 137 RX2 yX2_tellsOf wsX2_tellsOf) := goodIn_app (goodIn_of _ (by decide +kernel)) ggX2_range_X2_tellsOf
set_option maxRecDepth 20000 in
theorem ggX2_range_X2_find : GoodIn wsX2_range wsX2_find := goodIn_r _ [43, 6, 2, 44, 45, 46, 47, 48, 49, 50, 51, 52, 53, 54, 55, 56, 57, 58, 59, 60, 61, 62, 63, 64, 65, 66, 67, 68, 69, 70] (by decide +kernel) (by decide +kernel)
set_option maxRecDepth 20000 in
theorem gX2_range_X2_find : GoodIn wsX2_range (wsV RX2 140 RX2 yX2_find wsX2_find) := goodIn_app (goodIn_of _ (by decide +kernel)) ggX2_range_X2_find
set_option maxRecDepth 20000 in
theorem ggX2_range_X2_isSo : GoodIn wsX2_range wsX2_isSo := goodIn_r _ [39, 22, 24, 23, 44, 45, 46, 47, 48, 49, 50, 51, 52, 53, 54, 55, 56, 57, 58, 59, 60, 61, 62, 63, 64, 65, 66, 67, 68, 69, 70] (by decide +kernel) (by decide +kernel)
set_option maxRecDepth 20000 in
theorem gX2_range_X2_isSo : GoodIn wsX2_range (wsV RX2 133 RX2 yX2_isSo wsX2_isSo) := goodIn_app (goodIn_of _ (by decide +kernel)) ggX2_range_X2_isSo
theorem dX2_range_0 : decode cX2_range 0 = .ok (.aload_n 0, 1) := by decide +kernel
theorem dX2_range_1 : decode cX2_range 1 = .ok (.iconst 0, 1) := by decide +kernel
theorem dX2_range_2 : decode cX2_range 2 = .ok (.putfield 69, 3) := by decide +kernel
theorem dX2_range_5 : decode cX2_range 5 = .ok (.iload_n 1, 1) := by decide +kernel
theorem dX2_range_6 : decode cX2_range 6 = .ok (.ifCond .lt 25, 3) := by decide +kernel
theorem dX2_range_9 : decode cX2_range 9 = .ok (.iload_n 1, 1) := by decide +kernel
theorem dX2_range_10 : decode cX2_range 10 = .ok (.iconst 3, 1) := by decide +kernel
theorem dX2_range_11 : decode cX2_range 11 = .ok (.if_icmp .gt 20, 3) := by decide +kernel
theorem dX2_range_14 : decode cX2_range 14 = .ok (.aload_n 0, 1) := by decide +kernel
theorem dX2_range_15 : decode cX2_range 15 = .ok (.iload_n 2, 1) := by decide +kernel
theorem dX2_range_16 : decode cX2_range 16 = .ok (.iload_n 3, 1) := by decide +kernel
theorem dX2_range_17 : decode cX2_range 17 = .ok (.iload 4, 2) := by decide +kernel
theorem dX2_range_19 : decode cX2_range 19 = .ok (.iload 5, 2) := by decide +kernel
theorem dX2_range_21 : decode cX2_range 21 = .ok (.iload 6, 2) := by decide +kernel
theorem dX2_range_23 : decode cX2_range 23 = .ok (.iload 7, 2) := by decide +kernel
theorem dX2_range_25 : decode cX2_range 25 = .ok (.invokevirtual 96, 3) := by decide +kernel
theorem dX2_range_28 : decode cX2_range 28 = .ok (.ifCond .ne 6, 3) := by decide +kernel
theorem dX2_range_31 : decode cX2_range 31 = .ok (.bipush (-2), 2) := by decide +kernel
theorem dX2_range_33 : decode cX2_range 33 = .ok (.ireturn, 1) := by decide +kernel
theorem dX2_range_34 : decode cX2_range 34 = .ok (.aload_n 0, 1) := by decide +kernel
theorem dX2_range_35 : decode cX2_range 35 = .ok (.iconst 0, 1) := by decide +kernel
theorem dX2_range_36 : decode cX2_range 36 = .ok (.putfield 80, 3) := by decide +kernel
theorem dX2_range_39 : decode cX2_range 39 = .ok (.aload_n 0, 1) := by decide +kernel
theorem dX2_range_40 : decode cX2_range 40 = .ok (.iconst 0, 1) := by decide +kernel
theorem dX2_range_41 : decode cX2_range 41 = .ok (.putfield 83, 3) := by decide +kernel
theorem dX2_range_44 : decode cX2_range 44 = .ok (.aload_n 0, 1) := by decide +kernel
theorem dX2_range_45 : decode cX2_range 45 = .ok (.iconst 0, 1) := by decide +kernel
theorem dX2_range_46 : decode cX2_range 46 = .ok (.putfield 86, 3) := by decide +kernel
theorem dX2_range_49 : decode cX2_range 49 = .ok (.aload_n 0, 1) := by decide +kernel
theorem dX2_range_50 : decode cX2_range 50 = .ok (.iconst 0, 1) := by decide +kernel
theorem dX2_range_51 : decode cX2_range 51 = .ok (.putfield 89, 3) := by decide +kernel
theorem dX2_range_54 : decode cX2_range 54 = .ok (.iconst 0, 1) := by decide +kernel
theorem dX2_range_55 : decode cX2_range 55 = .ok (.istore 8, 2) := by decide +kernel
theorem dX2_range_57 : decode cX2_range 57 = .ok (.iload 8, 2) := by decide +kernel
theorem dX2_range_59 : decode cX2_range 59 = .ok (.bipush 64, 2) := by decide +kernel
theorem dX2_range_61 : decode cX2_range 61 = .ok (.if_icmp .ge 17, 3) := by decide +kernel
theorem dX2_range_64 : decode cX2_range 64 = .ok (.aload_n 0, 1) := by decide +kernel
theorem dX2_range_65 : decode cX2_range 65 = .ok (.getfield 66, 3) := by decide +kernel
theorem dX2_range_68 : decode cX2_range 68 = .ok (.iload 8, 2) := by decide +kernel
theorem dX2_range_70 : decode cX2_range 70 = .ok (.iconst 0, 1) := by decide +kernel
theorem dX2_range_71 : decode cX2_range 71 = .ok (.bastore, 1) := by decide +kernel
theorem dX2_range_72 : decode cX2_range 72 = .ok (.iinc 8 1, 3) := by decide +kernel
theorem dX2_range_75 : decode cX2_range 75 = .ok (.goto (-18), 3) := by decide +kernel
theorem dX2_range_78 : decode cX2_range 78 = .ok (.iconst 0, 1) := by decide +kernel
theorem dX2_range_79 : decode cX2_range 79 = .ok (.istore 8, 2) := by decide +kernel
theorem dX2_range_81 : decode cX2_range 81 = .ok (.iload 8, 2) := by decide +kernel
theorem dX2_range_83 : decode cX2_range 83 = .ok (.aload_n 0, 1) := by decide +kernel
theorem dX2_range_84 : decode cX2_range 84 = .ok (.getfield 77, 3) := by decide +kernel
theorem dX2_range_87 : decode cX2_range 87 = .ok (.if_icmp .ge 210, 3) := by decide +kernel
theorem dX2_range_90 : decode cX2_range 90 = .ok (.aload_n 0, 1) := by decide +kernel
theorem dX2_range_91 : decode cX2_range 91 = .ok (.iload_n 1, 1) := by decide +kernel
theorem dX2_range_92 : decode cX2_range 92 = .ok (.iload 8, 2) := by decide +kernel
theorem dX2_range_94 : decode cX2_range 94 = .ok (.invokevirtual 137, 3) := by decide +kernel
theorem dX2_range_97 : decode cX2_range 97 = .ok (.istore 9, 2) := by decide +kernel
theorem dX2_range_99 : decode cX2_range 99 = .ok (.iload 8, 2) := by decide +kernel
theorem dX2_range_101 : decode cX2_range 101 = .ok (.iconst 1, 1) := by decide +kernel
theorem dX2_range_102 : decode cX2_range 102 = .ok (.iadd, 1) := by decide +kernel
theorem dX2_range_103 : decode cX2_range 103 = .ok (.istore 10, 2) := by decide +kernel
theorem dX2_range_105 : decode cX2_range 105 = .ok (.iload 9, 2) := by decide +kernel
theorem dX2_range_107 : decode cX2_range 107 = .ok (.ifCond .lt 45, 3) := by decide +kernel
theorem dX2_range_110 : decode cX2_range 110 = .ok (.aload_n 0, 1) := by decide +kernel
theorem dX2_range_111 : decode cX2_range 111 = .ok (.dup, 1) := by decide +kernel
theorem dX2_range_112 : decode cX2_range 112 = .ok (.getfield 86, 3) := by decide +kernel
theorem dX2_range_115 : decode cX2_range 115 = .ok (.iconst 1, 1) := by decide +kernel
theorem dX2_range_116 : decode cX2_range 116 = .ok (.iadd, 1) := by decide +kernel
theorem dX2_range_117 : decode cX2_range 117 = .ok (.putfield 86, 3) := by decide +kernel
theorem dX2_range_120 : decode cX2_range 120 = .ok (.iload 10, 2) := by decide +kernel
theorem dX2_range_122 : decode cX2_range 122 = .ok (.aload_n 0, 1) := by decide +kernel
theorem dX2_range_123 : decode cX2_range 123 = .ok (.getfield 77, 3) := by decide +kernel
theorem dX2_range_126 : decode cX2_range 126 = .ok (.if_icmp .ge 36, 3) := by decide +kernel
theorem dX2_range_129 : decode cX2_range 129 = .ok (.aload_n 0, 1) := by decide +kernel
theorem dX2_range_130 : decode cX2_range 130 = .ok (.getfield 39, 3) := by decide +kernel
theorem dX2_range_133 : decode cX2_range 133 = .ok (.iload 10, 2) := by decide +kernel
theorem dX2_range_135 : decode cX2_range 135 = .ok (.iaload, 1) := by decide +kernel
theorem dX2_range_136 : decode cX2_range 136 = .ok (.aload_n 0, 1) := by decide +kernel
theorem dX2_range_137 : decode cX2_range 137 = .ok (.getfield 39, 3) := by decide +kernel
theorem dX2_range_140 : decode cX2_range 140 = .ok (.iload 8, 2) := by decide +kernel
theorem dX2_range_142 : decode cX2_range 142 = .ok (.iaload, 1) := by decide +kernel
theorem dX2_range_143 : decode cX2_range 143 = .ok (.if_icmp .le 19, 3) := by decide +kernel
theorem dX2_range_146 : decode cX2_range 146 = .ok (.iinc 10 1, 3) := by decide +kernel
theorem dX2_range_149 : decode cX2_range 149 = .ok (.goto (-29), 3) := by decide +kernel
theorem dX2_range_152 : decode cX2_range 152 = .ok (.aload_n 0, 1) := by decide +kernel
theorem dX2_range_153 : decode cX2_range 153 = .ok (.dup, 1) := by decide +kernel
theorem dX2_range_154 : decode cX2_range 154 = .ok (.getfield 83, 3) := by decide +kernel
theorem dX2_range_157 : decode cX2_range 157 = .ok (.iconst 1, 1) := by decide +kernel
theorem dX2_range_158 : decode cX2_range 158 = .ok (.iadd, 1) := by decide +kernel
theorem dX2_range_159 : decode cX2_range 159 = .ok (.putfield 83, 3) := by decide +kernel
theorem dX2_range_162 : decode cX2_range 162 = .ok (.aload_n 0, 1) := by decide +kernel
theorem dX2_range_163 : decode cX2_range 163 = .ok (.getfield 30, 3) := by decide +kernel
theorem dX2_range_166 : decode cX2_range 166 = .ok (.iload 8, 2) := by decide +kernel
theorem dX2_range_168 : decode cX2_range 168 = .ok (.iaload, 1) := by decide +kernel
theorem dX2_range_169 : decode cX2_range 169 = .ok (.istore 11, 2) := by decide +kernel
theorem dX2_range_171 : decode cX2_range 171 = .ok (.iload 11, 2) := by decide +kernel
theorem dX2_range_173 : decode cX2_range 173 = .ok (.aload_n 0, 1) := by decide +kernel
theorem dX2_range_174 : decode cX2_range 174 = .ok (.getfield 30, 3) := by decide +kernel
theorem dX2_range_177 : decode cX2_range 177 = .ok (.iload 8, 2) := by decide +kernel
theorem dX2_range_179 : decode cX2_range 179 = .ok (.iaload, 1) := by decide +kernel
theorem dX2_range_180 : decode cX2_range 180 = .ok (.aload_n 0, 1) := by decide +kernel
theorem dX2_range_181 : decode cX2_range 181 = .ok (.getfield 33, 3) := by decide +kernel
theorem dX2_range_184 : decode cX2_range 184 = .ok (.iload 8, 2) := by decide +kernel
theorem dX2_range_186 : decode cX2_range 186 = .ok (.iaload, 1) := by decide +kernel
theorem dX2_range_187 : decode cX2_range 187 = .ok (.iadd, 1) := by decide +kernel
theorem dX2_range_188 : decode cX2_range 188 = .ok (.if_icmp .ge 102, 3) := by decide +kernel
theorem dX2_range_191 : decode cX2_range 191 = .ok (.aload_n 0, 1) := by decide +kernel
theorem dX2_range_192 : decode cX2_range 192 = .ok (.getfield 27, 3) := by decide +kernel
theorem dX2_range_195 : decode cX2_range 195 = .ok (.iload 11, 2) := by decide +kernel
theorem dX2_range_197 : decode cX2_range 197 = .ok (.iaload, 1) := by decide +kernel
theorem dX2_range_198 : decode cX2_range 198 = .ok (.istore 12, 2) := by decide +kernel
theorem dX2_range_200 : decode cX2_range 200 = .ok (.aload_n 0, 1) := by decide +kernel
theorem dX2_range_201 : decode cX2_range 201 = .ok (.getfield 13, 3) := by decide +kernel
theorem dX2_range_204 : decode cX2_range 204 = .ok (.iload 12, 2) := by decide +kernel
theorem dX2_range_206 : decode cX2_range 206 = .ok (.baload, 1) := by decide +kernel
theorem dX2_range_207 : decode cX2_range 207 = .ok (.ifCond .eq 25, 3) := by decide +kernel
theorem dX2_range_210 : decode cX2_range 210 = .ok (.iload 9, 2) := by decide +kernel
theorem dX2_range_212 : decode cX2_range 212 = .ok (.iconst 1, 1) := by decide +kernel
theorem dX2_range_213 : decode cX2_range 213 = .ok (.if_icmp .ne 19, 3) := by decide +kernel
theorem dX2_range_216 : decode cX2_range 216 = .ok (.aload_n 0, 1) := by decide +kernel
theorem dX2_range_217 : decode cX2_range 217 = .ok (.iload 12, 2) := by decide +kernel
theorem dX2_range_219 : decode cX2_range 219 = .ok (.invokevirtual 140, 3) := by decide +kernel
theorem dX2_range_222 : decode cX2_range 222 = .ok (.aload_n 0, 1) := by decide +kernel
theorem dX2_range_223 : decode cX2_range 223 = .ok (.dup, 1) := by decide +kernel
theorem dX2_range_224 : decode cX2_range 224 = .ok (.getfield 89, 3) := by decide +kernel
theorem dX2_range_227 : decode cX2_range 227 = .ok (.iconst 1, 1) := by decide +kernel
theorem dX2_range_228 : decode cX2_range 228 = .ok (.iadd, 1) := by decide +kernel
theorem dX2_range_229 : decode cX2_range 229 = .ok (.putfield 89, 3) := by decide +kernel
theorem dX2_range_232 : decode cX2_range 232 = .ok (.aload_n 0, 1) := by decide +kernel
theorem dX2_range_233 : decode cX2_range 233 = .ok (.getfield 13, 3) := by decide +kernel
theorem dX2_range_236 : decode cX2_range 236 = .ok (.iload 12, 2) := by decide +kernel
theorem dX2_range_238 : decode cX2_range 238 = .ok (.baload, 1) := by decide +kernel
theorem dX2_range_239 : decode cX2_range 239 = .ok (.ifCond .eq 45, 3) := by decide +kernel
theorem dX2_range_242 : decode cX2_range 242 = .ok (.iload 9, 2) := by decide +kernel
theorem dX2_range_244 : decode cX2_range 244 = .ok (.ifCond .ge 40, 3) := by decide +kernel
theorem dX2_range_247 : decode cX2_range 247 = .ok (.aload_n 0, 1) := by decide +kernel
theorem dX2_range_248 : decode cX2_range 248 = .ok (.getfield 33, 3) := by decide +kernel
theorem dX2_range_251 : decode cX2_range 251 = .ok (.iload 8, 2) := by decide +kernel
theorem dX2_range_253 : decode cX2_range 253 = .ok (.iaload, 1) := by decide +kernel
theorem dX2_range_254 : decode cX2_range 254 = .ok (.iconst 5, 1) := by decide +kernel
theorem dX2_range_255 : decode cX2_range 255 = .ok (.if_icmp .ge 29, 3) := by decide +kernel
theorem dX2_range_258 : decode cX2_range 258 = .ok (.aload_n 0, 1) := by decide +kernel
theorem dX2_range_259 : decode cX2_range 259 = .ok (.iload_n 1, 1) := by decide +kernel
theorem dX2_range_260 : decode cX2_range 260 = .ok (.aload_n 0, 1) := by decide +kernel
theorem dX2_range_261 : decode cX2_range 261 = .ok (.getfield 17, 3) := by decide +kernel
theorem dX2_range_264 : decode cX2_range 264 = .ok (.aload_n 0, 1) := by decide +kernel
theorem dX2_range_265 : decode cX2_range 265 = .ok (.getfield 21, 3) := by decide +kernel
theorem dX2_range_268 : decode cX2_range 268 = .ok (.iconst 3, 1) := by decide +kernel
theorem dX2_range_269 : decode cX2_range 269 = .ok (.iload 12, 2) := by decide +kernel
theorem dX2_range_271 : decode cX2_range 271 = .ok (.imul, 1) := by decide +kernel
theorem dX2_range_272 : decode cX2_range 272 = .ok (.invokevirtual 133, 3) := by decide +kernel
theorem dX2_range_275 : decode cX2_range 275 = .ok (.ifCond .eq 9, 3) := by decide +kernel
theorem dX2_range_278 : decode cX2_range 278 = .ok (.aload_n 0, 1) := by decide +kernel
theorem dX2_range_279 : decode cX2_range 279 = .ok (.iload 12, 2) := by decide +kernel
theorem dX2_range_281 : decode cX2_range 281 = .ok (.invokevirtual 140, 3) := by decide +kernel
theorem dX2_range_284 : decode cX2_range 284 = .ok (.iinc 11 1, 3) := by decide +kernel
theorem dX2_range_287 : decode cX2_range 287 = .ok (.goto (-116), 3) := by decide +kernel
theorem dX2_range_290 : decode cX2_range 290 = .ok (.iload 10, 2) := by decide +kernel
theorem dX2_range_292 : decode cX2_range 292 = .ok (.istore 8, 2) := by decide +kernel
theorem dX2_range_294 : decode cX2_range 294 = .ok (.goto (-213), 3) := by decide +kernel
theorem dX2_range_297 : decode cX2_range 297 = .ok (.iconst 0, 1) := by decide +kernel
theorem dX2_range_298 : decode cX2_range 298 = .ok (.istore 9, 2) := by decide +kernel
theorem dX2_range_300 : decode cX2_range 300 = .ok (.iload 9, 2) := by decide +kernel
theorem dX2_range_302 : decode cX2_range 302 = .ok (.aload_n 0, 1) := by decide +kernel
theorem dX2_range_303 : decode cX2_range 303 = .ok (.getfield 72, 3) := by decide +kernel
theorem dX2_range_306 : decode cX2_range 306 = .ok (.if_icmp .ge 55, 3) := by decide +kernel
theorem dX2_range_309 : decode cX2_range 309 = .ok (.aload_n 0, 1) := by decide +kernel
theorem dX2_range_310 : decode cX2_range 310 = .ok (.getfield 13, 3) := by decide +kernel
theorem dX2_range_313 : decode cX2_range 313 = .ok (.iload 9, 2) := by decide +kernel
theorem dX2_range_315 : decode cX2_range 315 = .ok (.baload, 1) := by decide +kernel
theorem dX2_range_316 : decode cX2_range 316 = .ok (.ifCond .eq 39, 3) := by decide +kernel
theorem dX2_range_319 : decode cX2_range 319 = .ok (.aload_n 0, 1) := by decide +kernel
theorem dX2_range_320 : decode cX2_range 320 = .ok (.getfield 24, 3) := by decide +kernel
theorem dX2_range_323 : decode cX2_range 323 = .ok (.iload 9, 2) := by decide +kernel
theorem dX2_range_325 : decode cX2_range 325 = .ok (.baload, 1) := by decide +kernel
theorem dX2_range_326 : decode cX2_range 326 = .ok (.ifCond .ne 29, 3) := by decide +kernel
theorem dX2_range_329 : decode cX2_range 329 = .ok (.aload_n 0, 1) := by decide +kernel
theorem dX2_range_330 : decode cX2_range 330 = .ok (.iload_n 1, 1) := by decide +kernel
theorem dX2_range_331 : decode cX2_range 331 = .ok (.aload_n 0, 1) := by decide +kernel
theorem dX2_range_332 : decode cX2_range 332 = .ok (.getfield 17, 3) := by decide +kernel
theorem dX2_range_335 : decode cX2_range 335 = .ok (.aload_n 0, 1) := by decide +kernel
theorem dX2_range_336 : decode cX2_range 336 = .ok (.getfield 21, 3) := by decide +kernel
theorem dX2_range_339 : decode cX2_range 339 = .ok (.iconst 3, 1) := by decide +kernel
theorem dX2_range_340 : decode cX2_range 340 = .ok (.iload 9, 2) := by decide +kernel
theorem dX2_range_342 : decode cX2_range 342 = .ok (.imul, 1) := by decide +kernel
theorem dX2_range_343 : decode cX2_range 343 = .ok (.invokevirtual 133, 3) := by decide +kernel
theorem dX2_range_346 : decode cX2_range 346 = .ok (.ifCond .eq 9, 3) := by decide +kernel
theorem dX2_range_349 : decode cX2_range 349 = .ok (.aload_n 0, 1) := by decide +kernel
theorem dX2_range_350 : decode cX2_range 350 = .ok (.iload 9, 2) := by decide +kernel
theorem dX2_range_352 : decode cX2_range 352 = .ok (.invokevirtual 140, 3) := by decide +kernel
theorem dX2_range_355 : decode cX2_range 355 = .ok (.iinc 9 1, 3) := by decide +kernel
theorem dX2_range_358 : decode cX2_range 358 = .ok (.goto (-58), 3) := by decide +kernel
theorem dX2_range_361 : decode cX2_range 361 = .ok (.aload_n 0, 1) := by decide +kernel
theorem dX2_range_362 : decode cX2_range 362 = .ok (.getfield 80, 3) := by decide +kernel
theorem dX2_range_365 : decode cX2_range 365 = .ok (.ireturn, 1) := by decide +kernel
theorem dX2_found_0 : decode cX2_found 0 = .ok (.aload_n 0, 1) := by decide +kernel
theorem dX2_found_1 : decode cX2_found 1 = .ok (.iconst 0, 1) := by decide +kernel
theorem dX2_found_2 : decode cX2_found 2 = .ok (.putfield 69, 3) := by decide +kernel
theorem dX2_found_5 : decode cX2_found 5 = .ok (.iload_n 1, 1) := by decide +kernel
theorem dX2_found_6 : decode cX2_found 6 = .ok (.istore_n 2, 1) := by decide +kernel
theorem dX2_found_7 : decode cX2_found 7 = .ok (.iconst 0, 1) := by decide +kernel
theorem dX2_found_8 : decode cX2_found 8 = .ok (.istore_n 3, 1) := by decide +kernel
theorem dX2_found_9 : decode cX2_found 9 = .ok (.iload_n 3, 1) := by decide +kernel
theorem dX2_found_10 : decode cX2_found 10 = .ok (.bipush 64, 2) := by decide +kernel
theorem dX2_found_12 : decode cX2_found 12 = .ok (.if_icmp .ge 31, 3) := by decide +kernel
theorem dX2_found_15 : decode cX2_found 15 = .ok (.iload_n 1, 1) := by decide +kernel
theorem dX2_found_16 : decode cX2_found 16 = .ok (.ifCond .lt 27, 3) := by decide +kernel
theorem dX2_found_19 : decode cX2_found 19 = .ok (.aload_n 0, 1) := by decide +kernel
theorem dX2_found_20 : decode cX2_found 20 = .ok (.getfield 66, 3) := by decide +kernel
theorem dX2_found_23 : decode cX2_found 23 = .ok (.iload_n 3, 1) := by decide +kernel
theorem dX2_found_24 : decode cX2_found 24 = .ok (.baload, 1) := by decide +kernel
theorem dX2_found_25 : decode cX2_found 25 = .ok (.ifCond .eq 12, 3) := by decide +kernel
theorem dX2_found_28 : decode cX2_found 28 = .ok (.iload_n 2, 1) := by decide +kernel
theorem dX2_found_29 : decode cX2_found 29 = .ok (.ifCond .ne 5, 3) := by decide +kernel
theorem dX2_found_32 : decode cX2_found 32 = .ok (.iload_n 3, 1) := by decide +kernel
theorem dX2_found_33 : decode cX2_found 33 = .ok (.ireturn, 1) := by decide +kernel
theorem dX2_found_34 : decode cX2_found 34 = .ok (.iinc 2 (-1), 3) := by decide +kernel
theorem dX2_found_37 : decode cX2_found 37 = .ok (.iinc 3 1, 3) := by decide +kernel
theorem dX2_found_40 : decode cX2_found 40 = .ok (.goto (-31), 3) := by decide +kernel
theorem dX2_found_43 : decode cX2_found 43 = .ok (.iconst (-1), 1) := by decide +kernel
theorem dX2_found_44 : decode cX2_found 44 = .ok (.ireturn, 1) := by decide +kernel
theorem dX2_told_0 : decode cX2_told 0 = .ok (.aload_n 0, 1) := by decide +kernel
theorem dX2_told_1 : decode cX2_told 1 = .ok (.iconst 0, 1) := by decide +kernel
theorem dX2_told_2 : decode cX2_told 2 = .ok (.putfield 69, 3) := by decide +kernel
theorem dX2_told_5 : decode cX2_told 5 = .ok (.iload_n 1, 1) := by decide +kernel
theorem dX2_told_6 : decode cX2_told 6 = .ok (.ifCond .ne 10, 3) := by decide +kernel
theorem dX2_told_9 : decode cX2_told 9 = .ok (.aload_n 0, 1) := by decide +kernel
theorem dX2_told_10 : decode cX2_told 10 = .ok (.getfield 83, 3) := by decide +kernel
theorem dX2_told_13 : decode cX2_told 13 = .ok (.goto 29, 3) := by decide +kernel
theorem dX2_told_16 : decode cX2_told 16 = .ok (.iload_n 1, 1) := by decide +kernel
theorem dX2_told_17 : decode cX2_told 17 = .ok (.iconst 1, 1) := by decide +kernel
theorem dX2_told_18 : decode cX2_told 18 = .ok (.if_icmp .ne 10, 3) := by decide +kernel
theorem dX2_told_21 : decode cX2_told 21 = .ok (.aload_n 0, 1) := by decide +kernel
theorem dX2_told_22 : decode cX2_told 22 = .ok (.getfield 86, 3) := by decide +kernel
theorem dX2_told_25 : decode cX2_told 25 = .ok (.goto 17, 3) := by decide +kernel
theorem dX2_told_28 : decode cX2_told 28 = .ok (.iload_n 1, 1) := by decide +kernel
theorem dX2_told_29 : decode cX2_told 29 = .ok (.iconst 2, 1) := by decide +kernel
theorem dX2_told_30 : decode cX2_told 30 = .ok (.if_icmp .ne 10, 3) := by decide +kernel
theorem dX2_told_33 : decode cX2_told 33 = .ok (.aload_n 0, 1) := by decide +kernel
theorem dX2_told_34 : decode cX2_told 34 = .ok (.getfield 89, 3) := by decide +kernel
theorem dX2_told_37 : decode cX2_told 37 = .ok (.goto 5, 3) := by decide +kernel
theorem dX2_told_40 : decode cX2_told 40 = .ok (.bipush (-2), 2) := by decide +kernel
theorem dX2_told_42 : decode cX2_told 42 = .ok (.ireturn, 1) := by decide +kernel
set_option maxRecDepth 20000 in
theorem ggX2_isAt_X2_isPlace : GoodIn wsX2_isAt wsX2_isPlace := goodIn_r _ [5, 6, 7] (by decide +kernel) (by decide +kernel)
set_option maxRecDepth 20000 in
theorem gX2_isAt_X2_isPlace : GoodIn wsX2_isAt (va_wsS RX2 92 yX2_isPlace wsX2_isPlace) := goodIn_app (goodIn_of _ (by decide +kernel)) ggX2_isAt_X2_isPlace
theorem dX2_isAt_0 : decode cX2_isAt 0 = .ok (.iload_n 1, 1) := by decide +kernel
theorem dX2_isAt_1 : decode cX2_isAt 1 = .ok (.invokestatic 92, 3) := by decide +kernel
theorem dX2_isAt_4 : decode cX2_isAt 4 = .ok (.ifCond .eq 37, 3) := by decide +kernel
theorem dX2_isAt_7 : decode cX2_isAt 7 = .ok (.aload_n 0, 1) := by decide +kernel
theorem dX2_isAt_8 : decode cX2_isAt 8 = .ok (.getfield 7, 3) := by decide +kernel
theorem dX2_isAt_11 : decode cX2_isAt 11 = .ok (.iconst 2, 1) := by decide +kernel
theorem dX2_isAt_12 : decode cX2_isAt 12 = .ok (.if_icmp .lt 10, 3) := by decide +kernel
theorem dX2_isAt_15 : decode cX2_isAt 15 = .ok (.iload_n 2, 1) := by decide +kernel
theorem dX2_isAt_16 : decode cX2_isAt 16 = .ok (.invokestatic 92, 3) := by decide +kernel
theorem dX2_isAt_19 : decode cX2_isAt 19 = .ok (.ifCond .eq 22, 3) := by decide +kernel
theorem dX2_isAt_22 : decode cX2_isAt 22 = .ok (.aload_n 0, 1) := by decide +kernel
theorem dX2_isAt_23 : decode cX2_isAt 23 = .ok (.getfield 7, 3) := by decide +kernel
theorem dX2_isAt_26 : decode cX2_isAt 26 = .ok (.iconst 3, 1) := by decide +kernel
theorem dX2_isAt_27 : decode cX2_isAt 27 = .ok (.if_icmp .lt 10, 3) := by decide +kernel
theorem dX2_isAt_30 : decode cX2_isAt 30 = .ok (.iload_n 3, 1) := by decide +kernel
theorem dX2_isAt_31 : decode cX2_isAt 31 = .ok (.invokestatic 92, 3) := by decide +kernel
theorem dX2_isAt_34 : decode cX2_isAt 34 = .ok (.ifCond .eq 7, 3) := by decide +kernel
theorem dX2_isAt_37 : decode cX2_isAt 37 = .ok (.iconst 1, 1) := by decide +kernel
theorem dX2_isAt_38 : decode cX2_isAt 38 = .ok (.goto 4, 3) := by decide +kernel
theorem dX2_isAt_41 : decode cX2_isAt 41 = .ok (.iconst 0, 1) := by decide +kernel
theorem dX2_isAt_42 : decode cX2_isAt 42 = .ok (.ireturn, 1) := by decide +kernel
theorem dX2_square_0 : decode cX2_square 0 = .ok (.lconst 0, 1) := by decide +kernel
theorem dX2_square_1 : decode cX2_square 1 = .ok (.lstore 5, 2) := by decide +kernel
theorem dX2_square_3 : decode cX2_square 3 = .ok (.iconst 0, 1) := by decide +kernel
theorem dX2_square_4 : decode cX2_square 4 = .ok (.istore 7, 2) := by decide +kernel
theorem dX2_square_6 : decode cX2_square 6 = .ok (.iload 7, 2) := by decide +kernel
theorem dX2_square_8 : decode cX2_square 8 = .ok (.aload_n 0, 1) := by decide +kernel
theorem dX2_square_9 : decode cX2_square 9 = .ok (.getfield 7, 3) := by decide +kernel
theorem dX2_square_12 : decode cX2_square 12 = .ok (.if_icmp .ge 120, 3) := by decide +kernel
theorem dX2_square_15 : decode cX2_square 15 = .ok (.iload 7, 2) := by decide +kernel
theorem dX2_square_17 : decode cX2_square 17 = .ok (.ifCond .ne 8, 3) := by decide +kernel
theorem dX2_square_20 : decode cX2_square 20 = .ok (.iload_n 2, 1) := by decide +kernel
theorem dX2_square_21 : decode cX2_square 21 = .ok (.i2l, 1) := by decide +kernel
theorem dX2_square_22 : decode cX2_square 22 = .ok (.goto 17, 3) := by decide +kernel
theorem dX2_square_25 : decode cX2_square 25 = .ok (.iload 7, 2) := by decide +kernel
theorem dX2_square_27 : decode cX2_square 27 = .ok (.iconst 1, 1) := by decide +kernel
theorem dX2_square_28 : decode cX2_square 28 = .ok (.if_icmp .ne 8, 3) := by decide +kernel
theorem dX2_square_31 : decode cX2_square 31 = .ok (.iload_n 3, 1) := by decide +kernel
theorem dX2_square_32 : decode cX2_square 32 = .ok (.i2l, 1) := by decide +kernel
theorem dX2_square_33 : decode cX2_square 33 = .ok (.goto 6, 3) := by decide +kernel
theorem dX2_square_36 : decode cX2_square 36 = .ok (.iload 4, 2) := by decide +kernel
theorem dX2_square_38 : decode cX2_square 38 = .ok (.i2l, 1) := by decide +kernel
theorem dX2_square_39 : decode cX2_square 39 = .ok (.lstore 8, 2) := by decide +kernel
theorem dX2_square_41 : decode cX2_square 41 = .ok (.lload 8, 2) := by decide +kernel
theorem dX2_square_43 : decode cX2_square 43 = .ok (.aload_n 0, 1) := by decide +kernel
theorem dX2_square_44 : decode cX2_square 44 = .ok (.getfield 17, 3) := by decide +kernel
theorem dX2_square_47 : decode cX2_square 47 = .ok (.iconst 3, 1) := by decide +kernel
theorem dX2_square_48 : decode cX2_square 48 = .ok (.iload_n 1, 1) := by decide +kernel
theorem dX2_square_49 : decode cX2_square 49 = .ok (.imul, 1) := by decide +kernel
theorem dX2_square_50 : decode cX2_square 50 = .ok (.iload 7, 2) := by decide +kernel
theorem dX2_square_52 : decode cX2_square 52 = .ok (.iadd, 1) := by decide +kernel
theorem dX2_square_53 : decode cX2_square 53 = .ok (.iaload, 1) := by decide +kernel
theorem dX2_square_54 : decode cX2_square 54 = .ok (.i2l, 1) := by decide +kernel
theorem dX2_square_55 : decode cX2_square 55 = .ok (.lcmp, 1) := by decide +kernel
theorem dX2_square_56 : decode cX2_square 56 = .ok (.ifCond .ge 21, 3) := by decide +kernel
theorem dX2_square_59 : decode cX2_square 59 = .ok (.aload_n 0, 1) := by decide +kernel
theorem dX2_square_60 : decode cX2_square 60 = .ok (.getfield 17, 3) := by decide +kernel
theorem dX2_square_63 : decode cX2_square 63 = .ok (.iconst 3, 1) := by decide +kernel
theorem dX2_square_64 : decode cX2_square 64 = .ok (.iload_n 1, 1) := by decide +kernel
theorem dX2_square_65 : decode cX2_square 65 = .ok (.imul, 1) := by decide +kernel
theorem dX2_square_66 : decode cX2_square 66 = .ok (.iload 7, 2) := by decide +kernel
theorem dX2_square_68 : decode cX2_square 68 = .ok (.iadd, 1) := by decide +kernel
theorem dX2_square_69 : decode cX2_square 69 = .ok (.iaload, 1) := by decide +kernel
theorem dX2_square_70 : decode cX2_square 70 = .ok (.i2l, 1) := by decide +kernel
theorem dX2_square_71 : decode cX2_square 71 = .ok (.lload 8, 2) := by decide +kernel
theorem dX2_square_73 : decode cX2_square 73 = .ok (.lsub, 1) := by decide +kernel
theorem dX2_square_74 : decode cX2_square 74 = .ok (.goto 40, 3) := by decide +kernel
theorem dX2_square_77 : decode cX2_square 77 = .ok (.lload 8, 2) := by decide +kernel
theorem dX2_square_79 : decode cX2_square 79 = .ok (.aload_n 0, 1) := by decide +kernel
theorem dX2_square_80 : decode cX2_square 80 = .ok (.getfield 21, 3) := by decide +kernel
theorem dX2_square_83 : decode cX2_square 83 = .ok (.iconst 3, 1) := by decide +kernel
theorem dX2_square_84 : decode cX2_square 84 = .ok (.iload_n 1, 1) := by decide +kernel
theorem dX2_square_85 : decode cX2_square 85 = .ok (.imul, 1) := by decide +kernel
theorem dX2_square_86 : decode cX2_square 86 = .ok (.iload 7, 2) := by decide +kernel
theorem dX2_square_88 : decode cX2_square 88 = .ok (.iadd, 1) := by decide +kernel
theorem dX2_square_89 : decode cX2_square 89 = .ok (.iaload, 1) := by decide +kernel
theorem dX2_square_90 : decode cX2_square 90 = .ok (.i2l, 1) := by decide +kernel
theorem dX2_square_91 : decode cX2_square 91 = .ok (.lcmp, 1) := by decide +kernel
theorem dX2_square_92 : decode cX2_square 92 = .ok (.ifCond .le 21, 3) := by decide +kernel
theorem dX2_square_95 : decode cX2_square 95 = .ok (.lload 8, 2) := by decide +kernel
theorem dX2_square_97 : decode cX2_square 97 = .ok (.aload_n 0, 1) := by decide +kernel
theorem dX2_square_98 : decode cX2_square 98 = .ok (.getfield 21, 3) := by decide +kernel
theorem dX2_square_101 : decode cX2_square 101 = .ok (.iconst 3, 1) := by decide +kernel
theorem dX2_square_102 : decode cX2_square 102 = .ok (.iload_n 1, 1) := by decide +kernel
theorem dX2_square_103 : decode cX2_square 103 = .ok (.imul, 1) := by decide +kernel
theorem dX2_square_104 : decode cX2_square 104 = .ok (.iload 7, 2) := by decide +kernel
theorem dX2_square_106 : decode cX2_square 106 = .ok (.iadd, 1) := by decide +kernel
theorem dX2_square_107 : decode cX2_square 107 = .ok (.iaload, 1) := by decide +kernel
theorem dX2_square_108 : decode cX2_square 108 = .ok (.i2l, 1) := by decide +kernel
theorem dX2_square_109 : decode cX2_square 109 = .ok (.lsub, 1) := by decide +kernel
theorem dX2_square_110 : decode cX2_square 110 = .ok (.goto 4, 3) := by decide +kernel
theorem dX2_square_113 : decode cX2_square 113 = .ok (.lconst 0, 1) := by decide +kernel
theorem dX2_square_114 : decode cX2_square 114 = .ok (.lstore 10, 2) := by decide +kernel
theorem dX2_square_116 : decode cX2_square 116 = .ok (.lload 5, 2) := by decide +kernel
theorem dX2_square_118 : decode cX2_square 118 = .ok (.lload 10, 2) := by decide +kernel
theorem dX2_square_120 : decode cX2_square 120 = .ok (.lload 10, 2) := by decide +kernel
theorem dX2_square_122 : decode cX2_square 122 = .ok (.lmul, 1) := by decide +kernel
theorem dX2_square_123 : decode cX2_square 123 = .ok (.ladd, 1) := by decide +kernel
theorem dX2_square_124 : decode cX2_square 124 = .ok (.lstore 5, 2) := by decide +kernel
theorem dX2_square_126 : decode cX2_square 126 = .ok (.iinc 7 1, 3) := by decide +kernel
theorem dX2_square_129 : decode cX2_square 129 = .ok (.goto (-123), 3) := by decide +kernel
theorem dX2_square_132 : decode cX2_square 132 = .ok (.lload 5, 2) := by decide +kernel
theorem dX2_square_134 : decode cX2_square 134 = .ok (.lreturn, 1) := by decide +kernel
set_option maxRecDepth 20000 in
theorem ggX2_nearest_X2_count : GoodIn wsX2_nearest wsX2_count := goodIn_r _ [8, 1, 2, 3, 25, 26, 27, 28, 29, 30, 31, 32, 33, 34, 35, 36, 37, 38, 39, 40, 41, 42, 43, 44, 45, 46, 47, 48, 49, 50, 51] (by decide +kernel) (by decide +kernel)
set_option maxRecDepth 20000 in
theorem gX2_nearest_X2_count : GoodIn wsX2_nearest (wsV RX2 103 RX2 yX2_count wsX2_count) := goodIn_app (goodIn_of _ (by decide +kernel)) ggX2_nearest_X2_count
set_option maxRecDepth 20000 in
theorem ggX2_nearest_X2_isAt : GoodIn wsX2_nearest wsX2_isAt := goodIn_r _ [12, 13, 14, 15, 7, 16, 17, 18, 25, 26, 27, 28, 29, 30, 31, 32, 33, 34, 35, 36, 37, 38, 39, 40, 41, 42, 43, 44, 45, 46, 47, 48, 49, 50, 51] (by decide +kernel) (by decide +kernel)
set_option maxRecDepth 20000 in
theorem gX2_nearest_X2_isAt : GoodIn wsX2_nearest (wsV RX2 144 RX2 yX2_isAt wsX2_isAt) := goodIn_app (goodIn_of _ (by decide +kernel)) ggX2_nearest_X2_isAt
set_option maxRecDepth 20000 in
theorem ggX2_nearest_X2_square : GoodIn wsX2_nearest wsX2_square := goodIn_r _ [22, 13, 23, 24, 25, 26, 27, 28, 29, 30, 31, 32, 33, 34, 35, 36, 37, 38, 39, 40, 41, 42, 43, 44, 45, 46, 47, 48, 49, 50, 51] (by decide +kernel) (by decide +kernel)
set_option maxRecDepth 20000 in
theorem gX2_nearest_X2_square : GoodIn wsX2_nearest (wsV RX2 148 RX2 yX2_square wsX2_square) := goodIn_app (goodIn_of _ (by decide +kernel)) ggX2_nearest_X2_square
theorem dX2_nearest_0 : decode cX2_nearest 0 = .ok (.aload_n 0, 1) := by decide +kernel
theorem dX2_nearest_1 : decode cX2_nearest 1 = .ok (.iconst 0, 1) := by decide +kernel
theorem dX2_nearest_2 : decode cX2_nearest 2 = .ok (.putfield 69, 3) := by decide +kernel
theorem dX2_nearest_5 : decode cX2_nearest 5 = .ok (.iload 4, 2) := by decide +kernel
theorem dX2_nearest_7 : decode cX2_nearest 7 = .ok (.ifCond .lt 12, 3) := by decide +kernel
theorem dX2_nearest_10 : decode cX2_nearest 10 = .ok (.iload 4, 2) := by decide +kernel
theorem dX2_nearest_12 : decode cX2_nearest 12 = .ok (.aload_n 0, 1) := by decide +kernel
theorem dX2_nearest_13 : decode cX2_nearest 13 = .ok (.invokevirtual 103, 3) := by decide +kernel
theorem dX2_nearest_16 : decode cX2_nearest 16 = .ok (.if_icmp .lt 5, 3) := by decide +kernel
theorem dX2_nearest_19 : decode cX2_nearest 19 = .ok (.iconst (-1), 1) := by decide +kernel
theorem dX2_nearest_20 : decode cX2_nearest 20 = .ok (.ireturn, 1) := by decide +kernel
theorem dX2_nearest_21 : decode cX2_nearest 21 = .ok (.aload_n 0, 1) := by decide +kernel
theorem dX2_nearest_22 : decode cX2_nearest 22 = .ok (.iload_n 1, 1) := by decide +kernel
theorem dX2_nearest_23 : decode cX2_nearest 23 = .ok (.iload_n 2, 1) := by decide +kernel
theorem dX2_nearest_24 : decode cX2_nearest 24 = .ok (.iload_n 3, 1) := by decide +kernel
theorem dX2_nearest_25 : decode cX2_nearest 25 = .ok (.invokevirtual 144, 3) := by decide +kernel
theorem dX2_nearest_28 : decode cX2_nearest 28 = .ok (.ifCond .ne 6, 3) := by decide +kernel
theorem dX2_nearest_31 : decode cX2_nearest 31 = .ok (.bipush (-2), 2) := by decide +kernel
theorem dX2_nearest_33 : decode cX2_nearest 33 = .ok (.ireturn, 1) := by decide +kernel
theorem dX2_nearest_34 : decode cX2_nearest 34 = .ok (.iconst 0, 1) := by decide +kernel
theorem dX2_nearest_35 : decode cX2_nearest 35 = .ok (.istore 5, 2) := by decide +kernel
theorem dX2_nearest_37 : decode cX2_nearest 37 = .ok (.iload 5, 2) := by decide +kernel
theorem dX2_nearest_39 : decode cX2_nearest 39 = .ok (.aload_n 0, 1) := by decide +kernel
theorem dX2_nearest_40 : decode cX2_nearest 40 = .ok (.getfield 72, 3) := by decide +kernel
theorem dX2_nearest_43 : decode cX2_nearest 43 = .ok (.if_icmp .ge 143, 3) := by decide +kernel
theorem dX2_nearest_46 : decode cX2_nearest 46 = .ok (.iconst 0, 1) := by decide +kernel
theorem dX2_nearest_47 : decode cX2_nearest 47 = .ok (.istore 6, 2) := by decide +kernel
theorem dX2_nearest_49 : decode cX2_nearest 49 = .ok (.iconst 0, 1) := by decide +kernel
theorem dX2_nearest_50 : decode cX2_nearest 50 = .ok (.istore 7, 2) := by decide +kernel
theorem dX2_nearest_52 : decode cX2_nearest 52 = .ok (.iload 7, 2) := by decide +kernel
theorem dX2_nearest_54 : decode cX2_nearest 54 = .ok (.aload_n 0, 1) := by decide +kernel
theorem dX2_nearest_55 : decode cX2_nearest 55 = .ok (.getfield 72, 3) := by decide +kernel
theorem dX2_nearest_58 : decode cX2_nearest 58 = .ok (.if_icmp .ge 102, 3) := by decide +kernel
theorem dX2_nearest_61 : decode cX2_nearest 61 = .ok (.aload_n 0, 1) := by decide +kernel
theorem dX2_nearest_62 : decode cX2_nearest 62 = .ok (.getfield 13, 3) := by decide +kernel
theorem dX2_nearest_65 : decode cX2_nearest 65 = .ok (.iload 5, 2) := by decide +kernel
theorem dX2_nearest_67 : decode cX2_nearest 67 = .ok (.baload, 1) := by decide +kernel
theorem dX2_nearest_68 : decode cX2_nearest 68 = .ok (.ifCond .eq 92, 3) := by decide +kernel
theorem dX2_nearest_71 : decode cX2_nearest 71 = .ok (.aload_n 0, 1) := by decide +kernel
theorem dX2_nearest_72 : decode cX2_nearest 72 = .ok (.getfield 13, 3) := by decide +kernel
theorem dX2_nearest_75 : decode cX2_nearest 75 = .ok (.iload 7, 2) := by decide +kernel
theorem dX2_nearest_77 : decode cX2_nearest 77 = .ok (.baload, 1) := by decide +kernel
theorem dX2_nearest_78 : decode cX2_nearest 78 = .ok (.ifCond .eq 58, 3) := by decide +kernel
theorem dX2_nearest_81 : decode cX2_nearest 81 = .ok (.aload_n 0, 1) := by decide +kernel
theorem dX2_nearest_82 : decode cX2_nearest 82 = .ok (.iload 7, 2) := by decide +kernel
theorem dX2_nearest_84 : decode cX2_nearest 84 = .ok (.iload_n 1, 1) := by decide +kernel
theorem dX2_nearest_85 : decode cX2_nearest 85 = .ok (.iload_n 2, 1) := by decide +kernel
theorem dX2_nearest_86 : decode cX2_nearest 86 = .ok (.iload_n 3, 1) := by decide +kernel
theorem dX2_nearest_87 : decode cX2_nearest 87 = .ok (.invokevirtual 148, 3) := by decide +kernel
theorem dX2_nearest_90 : decode cX2_nearest 90 = .ok (.aload_n 0, 1) := by decide +kernel
theorem dX2_nearest_91 : decode cX2_nearest 91 = .ok (.iload 5, 2) := by decide +kernel
theorem dX2_nearest_93 : decode cX2_nearest 93 = .ok (.iload_n 1, 1) := by decide +kernel
theorem dX2_nearest_94 : decode cX2_nearest 94 = .ok (.iload_n 2, 1) := by decide +kernel
theorem dX2_nearest_95 : decode cX2_nearest 95 = .ok (.iload_n 3, 1) := by decide +kernel
theorem dX2_nearest_96 : decode cX2_nearest 96 = .ok (.invokevirtual 148, 3) := by decide +kernel
theorem dX2_nearest_99 : decode cX2_nearest 99 = .ok (.lcmp, 1) := by decide +kernel
theorem dX2_nearest_100 : decode cX2_nearest 100 = .ok (.ifCond .lt 32, 3) := by decide +kernel
theorem dX2_nearest_103 : decode cX2_nearest 103 = .ok (.aload_n 0, 1) := by decide +kernel
theorem dX2_nearest_104 : decode cX2_nearest 104 = .ok (.iload 7, 2) := by decide +kernel
theorem dX2_nearest_106 : decode cX2_nearest 106 = .ok (.iload_n 1, 1) := by decide +kernel
theorem dX2_nearest_107 : decode cX2_nearest 107 = .ok (.iload_n 2, 1) := by decide +kernel
theorem dX2_nearest_108 : decode cX2_nearest 108 = .ok (.iload_n 3, 1) := by decide +kernel
theorem dX2_nearest_109 : decode cX2_nearest 109 = .ok (.invokevirtual 148, 3) := by decide +kernel
theorem dX2_nearest_112 : decode cX2_nearest 112 = .ok (.aload_n 0, 1) := by decide +kernel
theorem dX2_nearest_113 : decode cX2_nearest 113 = .ok (.iload 5, 2) := by decide +kernel
theorem dX2_nearest_115 : decode cX2_nearest 115 = .ok (.iload_n 1, 1) := by decide +kernel
theorem dX2_nearest_116 : decode cX2_nearest 116 = .ok (.iload_n 2, 1) := by decide +kernel
theorem dX2_nearest_117 : decode cX2_nearest 117 = .ok (.iload_n 3, 1) := by decide +kernel
theorem dX2_nearest_118 : decode cX2_nearest 118 = .ok (.invokevirtual 148, 3) := by decide +kernel
theorem dX2_nearest_121 : decode cX2_nearest 121 = .ok (.lcmp, 1) := by decide +kernel
theorem dX2_nearest_122 : decode cX2_nearest 122 = .ok (.ifCond .ne 14, 3) := by decide +kernel
theorem dX2_nearest_125 : decode cX2_nearest 125 = .ok (.iload 7, 2) := by decide +kernel
theorem dX2_nearest_127 : decode cX2_nearest 127 = .ok (.iload 5, 2) := by decide +kernel
theorem dX2_nearest_129 : decode cX2_nearest 129 = .ok (.if_icmp .ge 7, 3) := by decide +kernel
theorem dX2_nearest_132 : decode cX2_nearest 132 = .ok (.iconst 1, 1) := by decide +kernel
theorem dX2_nearest_133 : decode cX2_nearest 133 = .ok (.goto 4, 3) := by decide +kernel
theorem dX2_nearest_136 : decode cX2_nearest 136 = .ok (.iconst 0, 1) := by decide +kernel
theorem dX2_nearest_137 : decode cX2_nearest 137 = .ok (.istore 8, 2) := by decide +kernel
theorem dX2_nearest_139 : decode cX2_nearest 139 = .ok (.iload 6, 2) := by decide +kernel
theorem dX2_nearest_141 : decode cX2_nearest 141 = .ok (.iload 8, 2) := by decide +kernel
theorem dX2_nearest_143 : decode cX2_nearest 143 = .ok (.ifCond .eq 7, 3) := by decide +kernel
theorem dX2_nearest_146 : decode cX2_nearest 146 = .ok (.iconst 1, 1) := by decide +kernel
theorem dX2_nearest_147 : decode cX2_nearest 147 = .ok (.goto 4, 3) := by decide +kernel
theorem dX2_nearest_150 : decode cX2_nearest 150 = .ok (.iconst 0, 1) := by decide +kernel
theorem dX2_nearest_151 : decode cX2_nearest 151 = .ok (.iadd, 1) := by decide +kernel
theorem dX2_nearest_152 : decode cX2_nearest 152 = .ok (.istore 6, 2) := by decide +kernel
theorem dX2_nearest_154 : decode cX2_nearest 154 = .ok (.iinc 7 1, 3) := by decide +kernel
theorem dX2_nearest_157 : decode cX2_nearest 157 = .ok (.goto (-105), 3) := by decide +kernel
theorem dX2_nearest_160 : decode cX2_nearest 160 = .ok (.aload_n 0, 1) := by decide +kernel
theorem dX2_nearest_161 : decode cX2_nearest 161 = .ok (.getfield 13, 3) := by decide +kernel
theorem dX2_nearest_164 : decode cX2_nearest 164 = .ok (.iload 5, 2) := by decide +kernel
theorem dX2_nearest_166 : decode cX2_nearest 166 = .ok (.baload, 1) := by decide +kernel
theorem dX2_nearest_167 : decode cX2_nearest 167 = .ok (.ifCond .eq 13, 3) := by decide +kernel
theorem dX2_nearest_170 : decode cX2_nearest 170 = .ok (.iload 6, 2) := by decide +kernel
theorem dX2_nearest_172 : decode cX2_nearest 172 = .ok (.iload 4, 2) := by decide +kernel
theorem dX2_nearest_174 : decode cX2_nearest 174 = .ok (.if_icmp .ne 6, 3) := by decide +kernel
theorem dX2_nearest_177 : decode cX2_nearest 177 = .ok (.iload 5, 2) := by decide +kernel
theorem dX2_nearest_179 : decode cX2_nearest 179 = .ok (.ireturn, 1) := by decide +kernel
theorem dX2_nearest_180 : decode cX2_nearest 180 = .ok (.iinc 5 1, 3) := by decide +kernel
theorem dX2_nearest_183 : decode cX2_nearest 183 = .ok (.goto (-146), 3) := by decide +kernel
theorem dX2_nearest_186 : decode cX2_nearest 186 = .ok (.iconst (-1), 1) := by decide +kernel
theorem dX2_nearest_187 : decode cX2_nearest 187 = .ok (.ireturn, 1) := by decide +kernel
set_option maxRecDepth 20000 in
theorem ggX2_distance_X2_isThing : GoodIn wsX2_distance wsX2_isThing := goodIn_r _ [7, 8, 9, 26, 27, 28, 29, 30, 31, 32, 33, 34, 35, 36, 37, 38, 39, 40, 41, 42, 43, 44, 45, 46, 47, 48, 49, 50, 51, 52] (by decide +kernel) (by decide +kernel)
set_option maxRecDepth 20000 in
theorem gX2_distance_X2_isThing : GoodIn wsX2_distance (wsV RX2 100 RX2 yX2_isThing wsX2_isThing) := goodIn_app (goodIn_of _ (by decide +kernel)) ggX2_distance_X2_isThing
set_option maxRecDepth 20000 in
theorem ggX2_distance_X2_isAt : GoodIn wsX2_distance wsX2_isAt := goodIn_r _ [13, 14, 15, 16, 6, 17, 18, 19, 26, 27, 28, 29, 30, 31, 32, 33, 34, 35, 36, 37, 38, 39, 40, 41, 42, 43, 44, 45, 46, 47, 48, 49, 50, 51, 52] (by decide +kernel) (by decide +kernel)
set_option maxRecDepth 20000 in
theorem gX2_distance_X2_isAt : GoodIn wsX2_distance (wsV RX2 144 RX2 yX2_isAt wsX2_isAt) := goodIn_app (goodIn_of _ (by decide +kernel)) ggX2_distance_X2_isAt
set_option maxRecDepth 20000 in
theorem ggX2_distance_X2_square : GoodIn wsX2_distance wsX2_square := goodIn_r _ [23, 14, 24, 25, 26, 27, 28, 29, 30, 31, 32, 33, 34, 35, 36, 37, 38, 39, 40, 41, 42, 43, 44, 45, 46, 47, 48, 49, 50, 51, 52] (by decide +kernel) (by decide +kernel)
set_option maxRecDepth 20000 in
theorem gX2_distance_X2_square : GoodIn wsX2_distance (wsV RX2 148 RX2 yX2_square wsX2_square) := goodIn_app (goodIn_of _ (by decide +kernel)) ggX2_distance_X2_square
theorem dX2_distance_0 : decode cX2_distance 0 = .ok (.aload_n 0, 1) := by decide +kernel
theorem dX2_distance_1 : decode cX2_distance 1 = .ok (.iconst 0, 1) := by decide +kernel
theorem dX2_distance_2 : decode cX2_distance 2 = .ok (.putfield 69, 3) := by decide +kernel
theorem dX2_distance_5 : decode cX2_distance 5 = .ok (.aload_n 0, 1) := by decide +kernel
theorem dX2_distance_6 : decode cX2_distance 6 = .ok (.iload_n 1, 1) := by decide +kernel
theorem dX2_distance_7 : decode cX2_distance 7 = .ok (.invokevirtual 100, 3) := by decide +kernel
theorem dX2_distance_10 : decode cX2_distance 10 = .ok (.ifCond .eq 26, 3) := by decide +kernel
theorem dX2_distance_13 : decode cX2_distance 13 = .ok (.aload_n 0, 1) := by decide +kernel
theorem dX2_distance_14 : decode cX2_distance 14 = .ok (.iload_n 2, 1) := by decide +kernel
theorem dX2_distance_15 : decode cX2_distance 15 = .ok (.iload_n 3, 1) := by decide +kernel
theorem dX2_distance_16 : decode cX2_distance 16 = .ok (.iload 4, 2) := by decide +kernel
theorem dX2_distance_18 : decode cX2_distance 18 = .ok (.invokevirtual 144, 3) := by decide +kernel
theorem dX2_distance_21 : decode cX2_distance 21 = .ok (.ifCond .eq 15, 3) := by decide +kernel
theorem dX2_distance_24 : decode cX2_distance 24 = .ok (.aload_n 0, 1) := by decide +kernel
theorem dX2_distance_25 : decode cX2_distance 25 = .ok (.iload_n 1, 1) := by decide +kernel
theorem dX2_distance_26 : decode cX2_distance 26 = .ok (.iload_n 2, 1) := by decide +kernel
theorem dX2_distance_27 : decode cX2_distance 27 = .ok (.iload_n 3, 1) := by decide +kernel
theorem dX2_distance_28 : decode cX2_distance 28 = .ok (.iload 4, 2) := by decide +kernel
theorem dX2_distance_30 : decode cX2_distance 30 = .ok (.invokevirtual 148, 3) := by decide +kernel
theorem dX2_distance_33 : decode cX2_distance 33 = .ok (.goto 6, 3) := by decide +kernel
theorem dX2_distance_36 : decode cX2_distance 36 = .ok (.ldc2_w 107, 3) := by decide +kernel
theorem dX2_distance_39 : decode cX2_distance 39 = .ok (.lreturn, 1) := by decide +kernel
theorem dX2_pairs_0 : decode cX2_pairs 0 = .ok (.aload_n 0, 1) := by decide +kernel
theorem dX2_pairs_1 : decode cX2_pairs 1 = .ok (.iconst 0, 1) := by decide +kernel
theorem dX2_pairs_2 : decode cX2_pairs 2 = .ok (.putfield 69, 3) := by decide +kernel
theorem dX2_pairs_5 : decode cX2_pairs 5 = .ok (.iconst 0, 1) := by decide +kernel
theorem dX2_pairs_6 : decode cX2_pairs 6 = .ok (.istore_n 1, 1) := by decide +kernel
theorem dX2_pairs_7 : decode cX2_pairs 7 = .ok (.iconst 0, 1) := by decide +kernel
theorem dX2_pairs_8 : decode cX2_pairs 8 = .ok (.istore_n 2, 1) := by decide +kernel
theorem dX2_pairs_9 : decode cX2_pairs 9 = .ok (.iload_n 2, 1) := by decide +kernel
theorem dX2_pairs_10 : decode cX2_pairs 10 = .ok (.aload_n 0, 1) := by decide +kernel
theorem dX2_pairs_11 : decode cX2_pairs 11 = .ok (.getfield 72, 3) := by decide +kernel
theorem dX2_pairs_14 : decode cX2_pairs 14 = .ok (.if_icmp .ge 140, 3) := by decide +kernel
theorem dX2_pairs_17 : decode cX2_pairs 17 = .ok (.iconst 0, 1) := by decide +kernel
theorem dX2_pairs_18 : decode cX2_pairs 18 = .ok (.istore_n 3, 1) := by decide +kernel
theorem dX2_pairs_19 : decode cX2_pairs 19 = .ok (.iload_n 3, 1) := by decide +kernel
theorem dX2_pairs_20 : decode cX2_pairs 20 = .ok (.iload_n 2, 1) := by decide +kernel
theorem dX2_pairs_21 : decode cX2_pairs 21 = .ok (.if_icmp .ge 127, 3) := by decide +kernel
theorem dX2_pairs_24 : decode cX2_pairs 24 = .ok (.aload_n 0, 1) := by decide +kernel
theorem dX2_pairs_25 : decode cX2_pairs 25 = .ok (.getfield 13, 3) := by decide +kernel
theorem dX2_pairs_28 : decode cX2_pairs 28 = .ok (.iload_n 2, 1) := by decide +kernel
theorem dX2_pairs_29 : decode cX2_pairs 29 = .ok (.baload, 1) := by decide +kernel
theorem dX2_pairs_30 : decode cX2_pairs 30 = .ok (.ifCond .eq 16, 3) := by decide +kernel
theorem dX2_pairs_33 : decode cX2_pairs 33 = .ok (.aload_n 0, 1) := by decide +kernel
theorem dX2_pairs_34 : decode cX2_pairs 34 = .ok (.getfield 13, 3) := by decide +kernel
theorem dX2_pairs_37 : decode cX2_pairs 37 = .ok (.iload_n 3, 1) := by decide +kernel
theorem dX2_pairs_38 : decode cX2_pairs 38 = .ok (.baload, 1) := by decide +kernel
theorem dX2_pairs_39 : decode cX2_pairs 39 = .ok (.ifCond .eq 7, 3) := by decide +kernel
theorem dX2_pairs_42 : decode cX2_pairs 42 = .ok (.iconst 1, 1) := by decide +kernel
theorem dX2_pairs_43 : decode cX2_pairs 43 = .ok (.goto 4, 3) := by decide +kernel
theorem dX2_pairs_46 : decode cX2_pairs 46 = .ok (.iconst 0, 1) := by decide +kernel
theorem dX2_pairs_47 : decode cX2_pairs 47 = .ok (.istore 4, 2) := by decide +kernel
theorem dX2_pairs_49 : decode cX2_pairs 49 = .ok (.iconst 0, 1) := by decide +kernel
theorem dX2_pairs_50 : decode cX2_pairs 50 = .ok (.istore 5, 2) := by decide +kernel
