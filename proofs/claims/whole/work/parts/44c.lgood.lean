set_option maxRecDepth 20000 in
theorem ggL_law_X1_bound : GoodIn wsL_law wsX1_bound := goodIn_r _ [251, 145, 27, 232, 233, 234, 2, 235, 65, 146, 147, 148, 149, 14, 150, 19, 151, 152, 35, 401, 402, 403, 404, 405, 406, 407, 408, 409, 410, 411, 412, 413, 414, 415, 416, 417, 418, 446] (by decide +kernel) (by decide +kernel)
set_option maxRecDepth 20000 in
theorem gL_law_X1_bound : GoodIn wsL_law (wsV RL 52 RX1 yX1_bound wsX1_bound) := goodIn_app (goodIn_of _ (by decide +kernel)) ggL_law_X1_bound
set_option maxRecDepth 20000 in
theorem ggL_law_X2_bound : GoodIn wsL_law wsX2_bound := goodIn_r _ [255, 76, 40, 157, 50, 51, 244, 245, 246, 5, 247, 78, 419, 420, 421, 422, 423, 424, 425, 426, 427, 428, 429, 430, 431, 432, 433, 434, 435, 436, 437, 438, 439, 440, 441, 442, 443, 444, 445] (by decide +kernel) (by decide +kernel)
set_option maxRecDepth 20000 in
theorem gL_law_X2_bound : GoodIn wsL_law (wsV RL 55 RX2 yX2_bound wsX2_bound) := goodIn_app (goodIn_of _ (by decide +kernel)) ggL_law_X2_bound
set_option maxRecDepth 20000 in
theorem ggL_law_X1_range : GoodIn wsL_law wsX1_range := goodIn_r _ [259, 28, 66, 63, 71, 87, 88, 89, 2, 90, 14, 91, 92, 93, 94, 95, 96, 19, 97, 98, 99, 100, 101, 102, 35, 67, 68, 69, 70, 29, 30, 260, 261, 262, 263, 65, 24, 264, 265, 266, 267, 27, 268, 269, 173, 150, 151, 152, 270, 271, 272, 273, 274, 275, 23, 16, 22, 276, 277, 278, 279, 236, 237, 238, 239, 25, 280, 281, 282, 283, 284, 285, 286, 287, 288, 289, 290, 291, 20, 401, 402, 403, 404, 405, 406, 407, 408, 409, 410, 411, 412, 413, 414, 415, 416, 417, 418, 446] (by decide +kernel) (by decide +kernel)
set_option maxRecDepth 20000 in
theorem gL_law_X1_range : GoodIn wsL_law (wsV RL 56 RX1 yX1_range wsX1_range) := goodIn_app (goodIn_of _ (by decide +kernel)) ggL_law_X1_range
set_option maxRecDepth 20000 in
theorem ggL_law_X2_range : GoodIn wsL_law wsX2_range := goodIn_r _ [295, 76, 79, 80, 81, 82, 58, 78, 49, 46, 47, 45, 41, 42, 43, 77, 44, 107, 108, 109, 5, 110, 40, 56, 57, 111, 112, 113, 114, 115, 296, 297, 298, 299, 50, 51, 300, 301, 302, 303, 304, 305, 306, 307, 419, 420, 421, 422, 423, 424, 425, 426, 427, 428, 429, 430, 431, 432, 433, 434, 435, 436, 437, 438, 439, 440, 441, 442, 443, 444, 445] (by decide +kernel) (by decide +kernel)
set_option maxRecDepth 20000 in
theorem gL_law_X2_range : GoodIn wsL_law (wsV RL 60 RX2 yX2_range wsX2_range) := goodIn_app (goodIn_of _ (by decide +kernel)) ggL_law_X2_range
set_option maxRecDepth 20000 in
theorem ggL_law_X1_found : GoodIn wsL_law wsX1_found := goodIn_r _ [311, 71, 29, 401, 402, 403, 404, 405, 406, 407, 408, 409, 410, 411, 412, 413, 414, 415, 416, 417, 418] (by decide +kernel) (by decide +kernel)
set_option maxRecDepth 20000 in
theorem gL_law_X1_found : GoodIn wsL_law (wsV RL 61 RX1 yX1_found wsX1_found) := goodIn_app (goodIn_of _ (by decide +kernel)) ggL_law_X1_found
set_option maxRecDepth 20000 in
theorem ggL_law_X2_found : GoodIn wsL_law wsX2_found := goodIn_r _ [315, 76, 58, 419, 420, 421, 422, 423, 424, 425, 426, 427, 428, 429, 430, 431, 432, 433, 434, 435, 436, 437, 438, 439, 440, 441, 442, 443, 444, 445] (by decide +kernel) (by decide +kernel)
set_option maxRecDepth 20000 in
theorem gL_law_X2_found : GoodIn wsL_law (wsV RL 64 RX2 yX2_found wsX2_found) := goodIn_app (goodIn_of _ (by decide +kernel)) ggL_law_X2_found
set_option maxRecDepth 20000 in
theorem ggL_law_X1_told : GoodIn wsL_law wsX1_told := goodIn_r _ [319, 30, 401, 402, 403, 404, 405, 406, 407, 408, 409, 410, 411, 412, 413, 414, 415, 416, 417, 418] (by decide +kernel) (by decide +kernel)
set_option maxRecDepth 20000 in
theorem gL_law_X1_told : GoodIn wsL_law (wsV RL 65 RX1 yX1_told wsX1_told) := goodIn_app (goodIn_of _ (by decide +kernel)) ggL_law_X1_told
set_option maxRecDepth 20000 in
theorem ggL_law_X2_told : GoodIn wsL_law wsX2_told := goodIn_r _ [323, 76, 80, 81, 82, 419, 420, 421, 422, 423, 424, 425, 426, 427, 428, 429, 430, 431, 432, 433, 434, 435, 436, 437, 438, 439, 440, 441, 442, 443, 444, 445] (by decide +kernel) (by decide +kernel)
set_option maxRecDepth 20000 in
theorem gL_law_X2_told : GoodIn wsL_law (wsV RL 68 RX2 yX2_told wsX2_told) := goodIn_app (goodIn_of _ (by decide +kernel)) ggL_law_X2_told
