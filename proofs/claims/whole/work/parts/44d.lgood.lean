set_option maxRecDepth 20000 in
theorem ggL_law_X1_nearest : GoodIn wsL_law wsX1_nearest := goodIn_r _ [327, 64, 63, 31, 20, 14, 16, 328, 329, 330, 2, 331, 87, 88, 89, 90, 91, 92, 93, 94, 95, 332, 19, 333, 334, 335, 336, 337, 338, 339, 340, 179, 341, 173, 150, 151, 152, 35, 342, 343, 344, 345, 346, 347, 348, 349, 401, 402, 403, 404, 405, 406, 407, 408, 409, 410, 411, 412, 413, 414, 415, 416, 417, 418, 446] (by decide +kernel) (by decide +kernel)
set_option maxRecDepth 20000 in
theorem gL_law_X1_nearest : GoodIn wsL_law (wsV RL 69 RX1 yX1_nearest wsX1_nearest) := goodIn_app (goodIn_of _ (by decide +kernel)) ggL_law_X1_nearest
set_option maxRecDepth 20000 in
theorem ggL_law_X2_nearest : GoodIn wsL_law wsX2_nearest := goodIn_r _ [353, 76, 77, 41, 132, 133, 134, 5, 135, 354, 355, 356, 357, 40, 111, 112, 113, 114, 115, 358, 359, 360, 361, 42, 43, 419, 420, 421, 422, 423, 424, 425, 426, 427, 428, 429, 430, 431, 432, 433, 434, 435, 436, 437, 438, 439, 440, 441, 442, 443, 444, 445] (by decide +kernel) (by decide +kernel)
set_option maxRecDepth 20000 in
theorem gL_law_X2_nearest : GoodIn wsL_law (wsV RL 73 RX2 yX2_nearest wsX2_nearest) := goodIn_app (goodIn_of _ (by decide +kernel)) ggL_law_X2_nearest
set_option maxRecDepth 20000 in
theorem ggL_law_X1_distance : GoodIn wsL_law wsX1_distance := goodIn_r _ [365, 145, 20, 14, 120, 121, 122, 2, 123, 63, 16, 328, 329, 330, 331, 87, 88, 89, 90, 91, 92, 93, 94, 95, 332, 19, 333, 334, 335, 336, 337, 338, 339, 340, 179, 341, 173, 150, 151, 152, 35, 401, 402, 403, 404, 405, 406, 407, 408, 409, 410, 411, 412, 413, 414, 415, 416, 417, 418, 446] (by decide +kernel) (by decide +kernel)
set_option maxRecDepth 20000 in
theorem gL_law_X1_distance : GoodIn wsL_law (wsV RL 74 RX1 yX1_distance wsX1_distance) := goodIn_app (goodIn_of _ (by decide +kernel)) ggL_law_X1_distance
set_option maxRecDepth 20000 in
theorem ggL_law_X2_distance : GoodIn wsL_law wsX2_distance := goodIn_r _ [369, 76, 157, 128, 129, 130, 5, 131, 77, 41, 354, 355, 356, 357, 40, 111, 112, 113, 114, 115, 358, 359, 360, 361, 42, 43, 419, 420, 421, 422, 423, 424, 425, 426, 427, 428, 429, 430, 431, 432, 433, 434, 435, 436, 437, 438, 439, 440, 441, 442, 443, 444, 445] (by decide +kernel) (by decide +kernel)
set_option maxRecDepth 20000 in
theorem gL_law_X2_distance : GoodIn wsL_law (wsV RL 78 RX2 yX2_distance wsX2_distance) := goodIn_app (goodIn_of _ (by decide +kernel)) ggL_law_X2_distance
set_option maxRecDepth 20000 in
theorem ggL_law_X1_pairs : GoodIn wsL_law wsX1_pairs := goodIn_r _ [373, 63, 16, 20, 14, 270, 19, 271, 173, 150, 151, 152, 35, 401, 402, 403, 404, 405, 406, 407, 408, 409, 410, 411, 412, 413, 414, 415, 416, 417, 418, 446] (by decide +kernel) (by decide +kernel)
set_option maxRecDepth 20000 in
theorem gL_law_X1_pairs : GoodIn wsL_law (wsV RL 79 RX1 yX1_pairs wsX1_pairs) := goodIn_app (goodIn_of _ (by decide +kernel)) ggL_law_X1_pairs
set_option maxRecDepth 20000 in
theorem ggL_law_X2_pairs : GoodIn wsL_law wsX2_pairs := goodIn_r _ [377, 76, 77, 41, 40, 42, 43, 419, 420, 421, 422, 423, 424, 425, 426, 427, 428, 429, 430, 431, 432, 433, 434, 435, 436, 437, 438, 439, 440, 441, 442, 443, 444, 445] (by decide +kernel) (by decide +kernel)
set_option maxRecDepth 20000 in
theorem gL_law_X2_pairs : GoodIn wsL_law (wsV RL 82 RX2 yX2_pairs wsX2_pairs) := goodIn_app (goodIn_of _ (by decide +kernel)) ggL_law_X2_pairs
set_option maxRecDepth 20000 in
theorem ggL_law_L_day : GoodIn wsL_law wsL_day := goodIn_ca (goodIn_r _ [381, 382, 383, 384, 385, 2, 386, 387, 388, 145, 389, 390, 391, 392] (by decide +kernel) (by decide +kernel)) (goodIn_sub (fun _ h => List.mem_append_right _ h) (by decide +kernel))
set_option maxRecDepth 20000 in
theorem gL_law_L_day : GoodIn wsL_law (va_wsS RL 85 yL_day wsL_day) := goodIn_app (goodIn_of _ (by decide +kernel)) ggL_law_L_day
set_option maxRecDepth 20000 in
theorem ggL_law_X2_day : GoodIn wsL_law wsX2_day := goodIn_r _ [396, 76, 157, 419, 420, 421, 422, 423, 424, 425, 426, 427, 428, 429, 430, 431, 432, 433, 434, 435, 436, 437, 438, 439, 440, 441, 442, 443, 444, 445] (by decide +kernel) (by decide +kernel)
set_option maxRecDepth 20000 in
theorem gL_law_X2_day : GoodIn wsL_law (wsV RL 90 RX2 yX2_day wsX2_day) := goodIn_app (goodIn_of _ (by decide +kernel)) ggL_law_X2_day
set_option maxRecDepth 20000 in
theorem ggL_law_X2_thrown : GoodIn wsL_law wsX2_thrown := goodIn_r _ [400, 76, 419, 420, 421, 422, 423, 424, 425, 426, 427, 428, 429, 430, 431, 432, 433, 434, 435, 436, 437, 438, 439, 440, 441, 442, 443, 444, 445] (by decide +kernel) (by decide +kernel)
set_option maxRecDepth 20000 in
theorem gL_law_X2_thrown : GoodIn wsL_law (wsV RL 91 RX2 yX2_thrown wsX2_thrown) := goodIn_app (goodIn_of _ (by decide +kernel)) ggL_law_X2_thrown
