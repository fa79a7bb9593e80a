set_option maxRecDepth 200000 in
theorem ggL_law_L_cell : GoodIn wsL_law wsL_cell := goodIn_r _ [9] rfl (by decide +kernel)
set_option maxRecDepth 20000 in
theorem gL_law_L_cell : GoodIn wsL_law (va_wsS RL 9 yL_cell wsL_cell) := goodIn_app (goodIn_of _ (by decide +kernel)) ggL_law_L_cell
set_option maxRecDepth 200000 in
theorem ggL_law_X5_init : GoodIn wsL_law wsX5_init := goodIn_r _ [12, 13, 14, 15, 16, 17, 18, 19, 20, 21, 22, 23, 24, 25, 26, 27, 28, 29, 30, 31, 32, 33, 34, 35, 36, 37, 38, 39, 40, 41, 42, 43, 44, 45, 46, 47, 48, 49, 50, 51, 52, 53, 54, 55, 56, 57, 58, 59, 60, 61, 62, 63, 64, 65, 66, 67, 68, 69, 70, 71, 72, 73, 74, 75, 449, 450, 451, 452, 453, 454, 455, 456, 419, 420, 421, 422, 457, 458, 459, 460, 461, 462, 463, 464, 465, 466, 467, 468, 469, 470, 471, 472, 473, 474, 475] rfl (by decide +kernel)
set_option maxRecDepth 20000 in
theorem gL_law_X5_init : GoodIn wsL_law (wsX5_init) := ggL_law_X5_init
set_option maxRecDepth 200000 in
theorem ggL_law_X6_init : GoodIn wsL_law wsX6_init := goodIn_r _ [78, 79, 14, 15, 35, 80, 81, 82, 83, 84, 39, 85, 86, 87, 88, 89, 90, 60, 91, 92, 93, 94, 95, 96, 97, 423, 424, 425, 426, 427, 428, 429, 430, 431, 432, 433, 434, 435, 436, 437, 438, 439, 440, 441, 442, 443, 444, 445, 446, 447, 448] rfl (by decide +kernel)
set_option maxRecDepth 20000 in
theorem gL_law_X6_init : GoodIn wsL_law (wsX6_init) := ggL_law_X6_init
set_option maxRecDepth 200000 in
theorem ggL_law_X5_box : GoodIn wsL_law wsX5_box := goodIn_r _ [101, 19, 102, 103, 2, 104, 105, 18, 106, 107, 108, 36, 41, 42, 43, 419, 420, 421, 422, 449, 450, 451, 452, 453, 454, 455, 456] rfl (by decide +kernel)
set_option maxRecDepth 20000 in
theorem gL_law_X5_box : GoodIn wsL_law (wsV RL 21 RX5 yX5_box wsX5_box) := goodIn_app (goodIn_of _ (by decide +kernel)) ggL_law_X5_box
set_option maxRecDepth 200000 in
theorem ggL_law_X6_box : GoodIn wsL_law wsX6_box := goodIn_r _ [112, 113, 114, 5, 115, 116, 117, 118, 119, 120, 80, 81, 82, 83, 84, 85, 423, 424, 425, 426, 427, 428, 429, 430, 431, 432, 433, 434, 435, 436, 437, 438, 439, 440, 441, 442, 443, 444, 445, 446, 447, 448] rfl (by decide +kernel)
set_option maxRecDepth 20000 in
theorem gL_law_X6_box : GoodIn wsL_law (wsV RL 25 RX6 yX6_box wsX6_box) := goodIn_app (goodIn_of _ (by decide +kernel)) ggL_law_X6_box
set_option maxRecDepth 200000 in
theorem ggL_law_X5_glue : GoodIn wsL_law wsX5_glue := goodIn_r _ [124, 19, 102, 103, 2, 104, 105, 18, 106, 107, 108, 36, 41, 42, 43, 419, 420, 421, 422, 449, 450, 451, 452, 453, 454, 455, 456] rfl (by decide +kernel)
set_option maxRecDepth 20000 in
theorem gL_law_X5_glue : GoodIn wsL_law (wsV RL 26 RX5 yX5_glue wsX5_glue) := goodIn_app (goodIn_of _ (by decide +kernel)) ggL_law_X5_glue
set_option maxRecDepth 200000 in
theorem ggL_law_X6_glue : GoodIn wsL_law wsX6_glue := goodIn_r _ [128, 113, 114, 5, 115, 116, 117, 118, 119, 120, 80, 81, 82, 83, 84, 85, 423, 424, 425, 426, 427, 428, 429, 430, 431, 432, 433, 434, 435, 436, 437, 438, 439, 440, 441, 442, 443, 444, 445, 446, 447, 448] rfl (by decide +kernel)
set_option maxRecDepth 20000 in
theorem gL_law_X6_glue : GoodIn wsL_law (wsV RL 30 RX6 yX6_glue wsX6_glue) := goodIn_app (goodIn_of _ (by decide +kernel)) ggL_law_X6_glue
set_option maxRecDepth 200000 in
theorem ggL_law_X5_penalty : GoodIn wsL_law wsX5_penalty := goodIn_r _ [132, 19, 102, 103, 2, 104, 133, 18, 134, 135, 37, 38, 40, 136, 105, 106, 107, 108, 36, 41, 42, 43, 419, 420, 421, 422, 449, 450, 451, 452, 453, 454, 455, 456] rfl (by decide +kernel)
set_option maxRecDepth 20000 in
theorem gL_law_X5_penalty : GoodIn wsL_law (wsV RL 31 RX5 yX5_penalty wsX5_penalty) := goodIn_app (goodIn_of _ (by decide +kernel)) ggL_law_X5_penalty
set_option maxRecDepth 200000 in
theorem ggL_law_X6_penalty : GoodIn wsL_law wsX6_penalty := goodIn_r _ [140, 113, 114, 5, 115, 116, 117, 118, 119, 120, 80, 81, 82, 83, 84, 85, 423, 424, 425, 426, 427, 428, 429, 430, 431, 432, 433, 434, 435, 436, 437, 438, 439, 440, 441, 442, 443, 444, 445, 446, 447, 448] rfl (by decide +kernel)
set_option maxRecDepth 20000 in
theorem gL_law_X6_penalty : GoodIn wsL_law (wsV RL 35 RX6 yX6_penalty wsX6_penalty) := goodIn_app (goodIn_of _ (by decide +kernel)) ggL_law_X6_penalty
set_option maxRecDepth 200000 in
theorem ggL_law_X5_shape : GoodIn wsL_law wsX5_shape := goodIn_r _ [144, 23, 102, 103, 2, 104, 419, 420, 421, 422, 457, 458] rfl (by decide +kernel)
set_option maxRecDepth 20000 in
theorem gL_law_X5_shape : GoodIn wsL_law (wsV RL 36 RX5 yX5_shape wsX5_shape) := goodIn_app (goodIn_of _ (by decide +kernel)) ggL_law_X5_shape
set_option maxRecDepth 200000 in
theorem ggL_law_X6_shape : GoodIn wsL_law wsX6_shape := goodIn_r _ [148, 86, 113, 114, 5, 115, 423, 424, 425, 426, 427, 428, 429, 430, 431, 432, 433, 434, 435, 436, 437, 438, 439, 440, 441, 442, 443, 444, 445, 446, 447, 448] rfl (by decide +kernel)
set_option maxRecDepth 20000 in
theorem gL_law_X6_shape : GoodIn wsL_law (wsV RL 40 RX6 yX6_shape wsX6_shape) := goodIn_app (goodIn_of _ (by decide +kernel)) ggL_law_X6_shape
