set_option maxRecDepth 20000 in
theorem ggL_law_X1_count : GoodIn wsL_law wsX1_count := goodIn_r _ [139, 64, 401, 402, 403, 404, 405, 406, 407, 408, 409, 410, 411, 412, 413, 414, 415, 416, 417, 418] (by decide +kernel) (by decide +kernel)
set_option maxRecDepth 20000 in
theorem gL_law_X1_count : GoodIn wsL_law (wsV RL 33 RX1 yX1_count wsX1_count) := goodIn_app (goodIn_of _ (by decide +kernel)) ggL_law_X1_count
set_option maxRecDepth 20000 in
theorem ggL_law_X2_count : GoodIn wsL_law wsX2_count := goodIn_r _ [135, 76, 77, 41, 419, 420, 421, 422, 423, 424, 425, 426, 427, 428, 429, 430, 431, 432, 433, 434, 435, 436, 437, 438, 439, 440, 441, 442, 443, 444, 445] (by decide +kernel) (by decide +kernel)
set_option maxRecDepth 20000 in
theorem gL_law_X2_count : GoodIn wsL_law (wsV RL 37 RX2 yX2_count wsX2_count) := goodIn_app (goodIn_of _ (by decide +kernel)) ggL_law_X2_count
set_option maxRecDepth 20000 in
theorem ggL_law_X1_end : GoodIn wsL_law wsX1_end := goodIn_r _ [144, 145, 20, 120, 121, 122, 2, 123, 63, 16, 146, 147, 148, 149, 14, 150, 19, 151, 152, 35, 401, 402, 403, 404, 405, 406, 407, 408, 409, 410, 411, 412, 413, 414, 415, 416, 417, 418, 446] (by decide +kernel) (by decide +kernel)
set_option maxRecDepth 20000 in
theorem gL_law_X1_end : GoodIn wsL_law (wsV RL 38 RX1 yX1_end wsX1_end) := goodIn_app (goodIn_of _ (by decide +kernel)) ggL_law_X1_end
set_option maxRecDepth 20000 in
theorem ggL_law_X2_end : GoodIn wsL_law wsX2_end := goodIn_r _ [156, 76, 40, 157, 42, 43, 128, 129, 130, 5, 131, 77, 41, 419, 420, 421, 422, 423, 424, 425, 426, 427, 428, 429, 430, 431, 432, 433, 434, 435, 436, 437, 438, 439, 440, 441, 442, 443, 444, 445] (by decide +kernel) (by decide +kernel)
set_option maxRecDepth 20000 in
theorem gL_law_X2_end : GoodIn wsL_law (wsV RL 42 RX2 yX2_end wsX2_end) := goodIn_app (goodIn_of _ (by decide +kernel)) ggL_law_X2_end
set_option maxRecDepth 20000 in
theorem ggL_law_X1_build : GoodIn wsL_law wsX1_build := goodIn_r _ [161, 65, 63, 66, 16, 22, 162, 163, 164, 2, 165, 23, 24, 25, 26, 166, 167, 168, 169, 27, 20, 170, 19, 171, 172, 173, 150, 151, 152, 35, 99, 100, 101, 102, 174, 175, 176, 177, 178, 179, 180, 181, 182, 183, 184, 185, 186, 187, 14, 188, 189, 190, 191, 192, 193, 194, 195, 196, 197, 198, 199, 200, 201, 202, 203, 204, 401, 402, 403, 404, 405, 406, 407, 408, 409, 410, 411, 412, 413, 414, 415, 416, 417, 418, 446] (by decide +kernel) (by decide +kernel)
set_option maxRecDepth 20000 in
theorem gL_law_X1_build : GoodIn wsL_law (wsV RL 43 RX1 yX1_build wsX1_build) := goodIn_app (goodIn_of _ (by decide +kernel)) ggL_law_X1_build
set_option maxRecDepth 20000 in
theorem ggL_law_X2_build : GoodIn wsL_law wsX2_build := goodIn_r _ [208, 76, 77, 44, 41, 45, 78, 209, 46, 52, 47, 53, 49, 54, 48, 55, 210, 211, 212, 5, 213, 214, 215, 216, 217, 40, 115, 114, 218, 219, 42, 43, 50, 51, 220, 221, 222, 223, 224, 225, 226, 227, 419, 420, 421, 422, 423, 424, 425, 426, 427, 428, 429, 430, 431, 432, 433, 434, 435, 436, 437, 438, 439, 440, 441, 442, 443, 444, 445] (by decide +kernel) (by decide +kernel)
set_option maxRecDepth 20000 in
theorem gL_law_X2_build : GoodIn wsL_law (wsV RL 46 RX2 yX2_build wsX2_build) := goodIn_app (goodIn_of _ (by decide +kernel)) ggL_law_X2_build
set_option maxRecDepth 20000 in
theorem ggL_law_X1_block : GoodIn wsL_law wsX1_block := goodIn_r _ [231, 24, 23, 25, 26, 232, 233, 234, 2, 235, 65, 236, 237, 238, 239, 401, 402, 403, 404, 405, 406, 407, 408, 409, 410, 411, 412, 413, 414, 415, 416, 417, 418] (by decide +kernel) (by decide +kernel)
set_option maxRecDepth 20000 in
theorem gL_law_X1_block : GoodIn wsL_law (wsV RL 47 RX1 yX1_block wsX1_block) := goodIn_app (goodIn_of _ (by decide +kernel)) ggL_law_X1_block
set_option maxRecDepth 20000 in
theorem ggL_law_X2_block : GoodIn wsL_law wsX2_block := goodIn_r _ [243, 76, 47, 48, 49, 244, 245, 246, 5, 247, 78, 419, 420, 421, 422, 423, 424, 425, 426, 427, 428, 429, 430, 431, 432, 433, 434, 435, 436, 437, 438, 439, 440, 441, 442, 443, 444, 445] (by decide +kernel) (by decide +kernel)
set_option maxRecDepth 20000 in
theorem gL_law_X2_block : GoodIn wsL_law (wsV RL 51 RX2 yX2_block wsX2_block) := goodIn_app (goodIn_of _ (by decide +kernel)) ggL_law_X2_block
