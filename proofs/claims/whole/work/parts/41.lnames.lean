def wsL_day : List Cond := .codeWith yL_day cL_day 7 (some .int) [(0, 10, 13, 13)] :: ([.classLink RL 13 "java/lang/ArithmeticException", .methodLink RL 7 yX1_day, .instanceMethod yX1_day, .selects RX1 yX1_day yX1_day, .initialized RX1, .code yX1_day cX1_day 5 (some .long), .classLink RX1 133 "java/lang/ArithmeticException", .initialized "java/lang/ArithmeticException", .constantLong RX1 91 (-9223372036854775808), .methodLink RX1 140 yJ9_floorDiv_f86c9, .static yJ9_floorDiv_f86c9, .initialized RJ9, .code yJ9_floorDiv_f86c9 cJ9_floorDiv_f86c9 6 (some .long)] ++ (vx_atS RX1 137 "java/lang/ArithmeticException" ["java/lang/RuntimeException", "java/lang/Exception"]).filter goodWord)
set_option maxRecDepth 20000 in
theorem ggL_day_X1_day : GoodIn wsL_day wsX1_day := goodIn_ca (goodIn_r _ [6, 7, 8, 9, 10, 11, 12, 13] (by decide +kernel) (by decide +kernel)) (goodIn_sub (fun _ h => List.mem_cons_of_mem _ (List.mem_append_right _ h)) (by decide +kernel))
set_option maxRecDepth 20000 in
theorem gL_day_X1_day : GoodIn wsL_day (wsV RL 7 RX1 yX1_day wsX1_day) := goodIn_app (goodIn_of _ (by decide +kernel)) ggL_day_X1_day
theorem dL_day_0 : decode cL_day 0 = .ok (.aload 5, 2) := by decide +kernel
theorem dL_day_2 : decode cL_day 2 = .ok (.iconst 0, 1) := by decide +kernel
theorem dL_day_3 : decode cL_day 3 = .ok (.aload_n 0, 1) := by decide +kernel
theorem dL_day_4 : decode cL_day 4 = .ok (.lload_n 1, 1) := by decide +kernel
theorem dL_day_5 : decode cL_day 5 = .ok (.lload_n 3, 1) := by decide +kernel
theorem dL_day_6 : decode cL_day 6 = .ok (.invokevirtual 7, 3) := by decide +kernel
theorem dL_day_9 : decode cL_day 9 = .ok (.lastore, 1) := by decide +kernel
theorem dL_day_10 : decode cL_day 10 = .ok (.goto 7, 3) := by decide +kernel
theorem dL_day_13 : decode cL_day 13 = .ok (.astore 6, 2) := by decide +kernel
theorem dL_day_15 : decode cL_day 15 = .ok (.iconst 1, 1) := by decide +kernel
theorem dL_day_16 : decode cL_day 16 = .ok (.ireturn, 1) := by decide +kernel
theorem dL_day_17 : decode cL_day 17 = .ok (.iconst 0, 1) := by decide +kernel
theorem dL_day_18 : decode cL_day 18 = .ok (.ireturn, 1) := by decide +kernel
