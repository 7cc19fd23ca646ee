set_option maxRecDepth 20000 in
theorem ggL_law_X1_init : GoodIn wsL_law wsX1_init := goodIn_r _ [10, 11, 12, 13, 14, 15, 16, 17, 18, 19, 20, 21, 22, 23, 24, 25, 26, 27, 28, 29, 30, 6, 31, 32, 33, 34, 35, 401, 402, 403, 404, 405, 406, 407, 408, 409, 410, 411, 412, 413, 414, 415, 416, 417, 418, 446] (by decide +kernel) (by decide +kernel)
set_option maxRecDepth 20000 in
theorem gL_law_X1_init : GoodIn wsL_law (wsX1_init) := ggL_law_X1_init
set_option maxRecDepth 20000 in
theorem ggL_law_X2_init : GoodIn wsL_law wsX2_init := goodIn_r _ [38, 39, 12, 13, 40, 15, 41, 21, 42, 43, 44, 45, 46, 47, 48, 49, 50, 51, 52, 53, 54, 55, 56, 57, 58, 419, 420, 421, 422, 423, 424, 425, 426, 427, 428, 429, 430, 431, 432, 433, 434, 435, 436, 437, 438, 439, 440, 441, 442, 443, 444, 445] (by decide +kernel) (by decide +kernel)
set_option maxRecDepth 20000 in
theorem gL_law_X2_init : GoodIn wsL_law (wsX2_init) := ggL_law_X2_init
set_option maxRecDepth 20000 in
theorem ggL_law_X1_dimensions : GoodIn wsL_law wsX1_dimensions := goodIn_r _ [62, 14, 63, 64, 65, 66, 67, 68, 69, 2, 70, 29, 71, 30, 401, 402, 403, 404, 405, 406, 407, 408, 409, 410, 411, 412, 413, 414, 415, 416, 417, 418] (by decide +kernel) (by decide +kernel)
set_option maxRecDepth 20000 in
theorem gL_law_X1_dimensions : GoodIn wsL_law (wsV RL 19 RX1 yX1_dimensions wsX1_dimensions) := goodIn_app (goodIn_of _ (by decide +kernel)) ggL_law_X1_dimensions
set_option maxRecDepth 20000 in
theorem ggL_law_X2_dimensions : GoodIn wsL_law wsX2_dimensions := goodIn_r _ [75, 76, 40, 77, 78, 79, 80, 81, 82, 58, 44, 41, 419, 420, 421, 422, 423, 424, 425, 426, 427, 428, 429, 430, 431, 432, 433, 434, 435, 436, 437, 438, 439, 440, 441, 442, 443, 444, 445] (by decide +kernel) (by decide +kernel)
set_option maxRecDepth 20000 in
theorem gL_law_X2_dimensions : GoodIn wsL_law (wsV RL 23 RX2 yX2_dimensions wsX2_dimensions) := goodIn_app (goodIn_of _ (by decide +kernel)) ggL_law_X2_dimensions
set_option maxRecDepth 20000 in
theorem ggL_law_X1_thing : GoodIn wsL_law wsX1_thing := goodIn_r _ [86, 63, 20, 16, 64, 87, 88, 89, 2, 90, 14, 91, 92, 93, 94, 95, 96, 19, 97, 98, 99, 100, 101, 102, 35, 401, 402, 403, 404, 405, 406, 407, 408, 409, 410, 411, 412, 413, 414, 415, 416, 417, 418, 446] (by decide +kernel) (by decide +kernel)
set_option maxRecDepth 20000 in
theorem gL_law_X1_thing : GoodIn wsL_law (wsV RL 24 RX1 yX1_thing wsX1_thing) := goodIn_app (goodIn_of _ (by decide +kernel)) ggL_law_X1_thing
set_option maxRecDepth 20000 in
theorem ggL_law_X2_thing : GoodIn wsL_law wsX2_thing := goodIn_r _ [106, 76, 77, 40, 42, 56, 43, 57, 41, 44, 107, 108, 109, 5, 110, 111, 112, 113, 114, 115, 419, 420, 421, 422, 423, 424, 425, 426, 427, 428, 429, 430, 431, 432, 433, 434, 435, 436, 437, 438, 439, 440, 441, 442, 443, 444, 445] (by decide +kernel) (by decide +kernel)
set_option maxRecDepth 20000 in
theorem gL_law_X2_thing : GoodIn wsL_law (wsV RL 28 RX2 yX2_thing wsX2_thing) := goodIn_app (goodIn_of _ (by decide +kernel)) ggL_law_X2_thing
set_option maxRecDepth 20000 in
theorem ggL_law_X1_drop : GoodIn wsL_law wsX1_drop := goodIn_r _ [119, 16, 64, 120, 121, 122, 2, 123, 63, 401, 402, 403, 404, 405, 406, 407, 408, 409, 410, 411, 412, 413, 414, 415, 416, 417, 418] (by decide +kernel) (by decide +kernel)
set_option maxRecDepth 20000 in
theorem gL_law_X1_drop : GoodIn wsL_law (wsV RL 29 RX1 yX1_drop wsX1_drop) := goodIn_app (goodIn_of _ (by decide +kernel)) ggL_law_X1_drop
set_option maxRecDepth 20000 in
theorem ggL_law_X2_drop : GoodIn wsL_law wsX2_drop := goodIn_r _ [127, 76, 41, 128, 129, 130, 5, 131, 77, 132, 133, 134, 135, 419, 420, 421, 422, 423, 424, 425, 426, 427, 428, 429, 430, 431, 432, 433, 434, 435, 436, 437, 438, 439, 440, 441, 442, 443, 444, 445] (by decide +kernel) (by decide +kernel)
set_option maxRecDepth 20000 in
theorem gL_law_X2_drop : GoodIn wsL_law (wsV RL 32 RX2 yX2_drop wsX2_drop) := goodIn_app (goodIn_of _ (by decide +kernel)) ggL_law_X2_drop
