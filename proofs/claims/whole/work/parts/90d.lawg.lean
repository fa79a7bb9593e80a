set_option maxRecDepth 200000 in
theorem ggL_law_X5_setting : GoodIn wsL_law wsX5_setting := goodIn_r _ [152, 23, 102, 103, 2, 104, 419, 420, 421, 422, 457, 458] rfl (by decide +kernel)
set_option maxRecDepth 20000 in
theorem gL_law_X5_setting : GoodIn wsL_law (wsV RL 41 RX5 yX5_setting wsX5_setting) := goodIn_app (goodIn_of _ (by decide +kernel)) ggL_law_X5_setting
set_option maxRecDepth 200000 in
theorem ggL_law_X6_setting : GoodIn wsL_law wsX6_setting := goodIn_r _ [156, 87, 113, 114, 5, 115, 423, 424, 425, 426, 427, 428, 429, 430, 431, 432, 433, 434, 435, 436, 437, 438, 439, 440, 441, 442, 443, 444, 445, 446, 447, 448] rfl (by decide +kernel)
set_option maxRecDepth 20000 in
theorem gL_law_X6_setting : GoodIn wsL_law (wsV RL 44 RX6 yX6_setting wsX6_setting) := goodIn_app (goodIn_of _ (by decide +kernel)) ggL_law_X6_setting
set_option maxRecDepth 200000 in
theorem ggL_law_X5_run : GoodIn wsL_law wsX5_run := goodIn_r _ [160, 31, 27, 161, 30, 162, 163, 164, 165, 166, 167, 26, 168, 169, 170, 65, 64, 61, 171, 172, 173, 174, 175, 176, 177, 178, 179, 180, 181, 182, 183, 22, 184, 185, 186, 18, 187, 188, 37, 40, 189, 190, 191, 192, 108, 36, 193, 194, 195, 196, 197, 198, 199, 200, 201, 202, 203, 204, 205, 206, 207, 208, 209, 210, 211, 59, 212, 213, 214, 48, 215, 216, 217, 218, 58, 219, 220, 221, 222, 223, 224, 225, 38, 226, 227, 228, 229, 230, 231, 232, 233, 234, 235, 236, 237, 238, 239, 240, 241, 242, 243, 244, 245, 246, 247, 248, 249, 250, 251, 252, 253, 254, 255, 256, 257, 63, 258, 259, 260, 261, 262, 263, 264, 265, 266, 267, 268, 269, 270, 271, 272, 273, 274, 275, 276, 277, 278, 279, 280, 281, 282, 283, 284, 285, 286, 287, 72, 73, 74, 75, 419, 420, 421, 422, 465, 466, 467, 468, 469, 470, 471, 459, 460, 461, 462, 463, 464, 449, 450, 451, 452, 453, 454, 455, 456, 457, 458, 472, 473, 474, 475] rfl (by decide +kernel)
set_option maxRecDepth 20000 in
theorem gL_law_X5_run : GoodIn wsL_law (wsV RL 45 RX5 yX5_run wsX5_run) := goodIn_app (goodIn_of _ (by decide +kernel)) ggL_law_X5_run
set_option maxRecDepth 200000 in
theorem ggL_law_X6_run : GoodIn wsL_law wsX6_run := goodIn_r _ [291, 292, 293, 294, 92, 295, 296, 297, 5, 298, 120, 299, 300, 301, 302, 80, 88, 81, 89, 82, 90, 83, 303, 304, 305, 306, 84, 85, 307, 308, 309, 310, 311, 312, 91, 313, 314, 315, 316, 317, 318, 319, 320, 321, 322, 86, 323, 87, 324, 325, 326, 327, 328, 329, 330, 331, 332, 333, 334, 335, 336, 337, 338, 339, 93, 340, 341, 342, 343, 94, 95, 96, 97, 423, 424, 425, 426, 427, 428, 429, 430, 431, 432, 433, 434, 435, 436, 437, 438, 439, 440, 441, 442, 443, 444, 445, 446, 447, 448] rfl (by decide +kernel)
set_option maxRecDepth 20000 in
theorem gL_law_X6_run : GoodIn wsL_law (wsV RL 49 RX6 yX6_run wsX6_run) := goodIn_app (goodIn_of _ (by decide +kernel)) ggL_law_X6_run
set_option maxRecDepth 200000 in
theorem ggL_law_X5_loose : GoodIn wsL_law wsX5_loose := goodIn_r _ [347, 31, 27, 102, 103, 2, 104, 167, 26, 168, 169, 170, 65, 64, 61, 171, 172, 173, 174, 175, 176, 177, 178, 179, 180, 181, 182, 183, 22, 184, 185, 186, 18, 187, 188, 37, 40, 189, 190, 191, 192, 108, 36, 193, 194, 195, 196, 197, 198, 199, 200, 201, 202, 203, 204, 205, 206, 207, 208, 209, 210, 211, 59, 212, 213, 214, 48, 215, 216, 217, 218, 58, 219, 220, 221, 222, 223, 224, 225, 38, 226, 227, 228, 229, 230, 231, 232, 233, 234, 235, 236, 237, 238, 239, 240, 241, 242, 243, 244, 245, 246, 247, 248, 249, 250, 251, 252, 253, 254, 255, 256, 257, 63, 258, 259, 260, 261, 262, 263, 264, 265, 266, 267, 268, 269, 270, 271, 272, 273, 274, 275, 276, 277, 278, 279, 280, 161, 30, 162, 163, 164, 165, 166, 281, 282, 283, 284, 285, 286, 287, 72, 73, 74, 75, 419, 420, 421, 422, 465, 466, 467, 468, 469, 470, 471, 459, 460, 461, 462, 463, 464, 449, 450, 451, 452, 453, 454, 455, 456, 457, 458, 472, 473, 474, 475] rfl (by decide +kernel)
set_option maxRecDepth 20000 in
theorem gL_law_X5_loose : GoodIn wsL_law (wsV RL 50 RX5 yX5_loose wsX5_loose) := goodIn_app (goodIn_of _ (by decide +kernel)) ggL_law_X5_loose
set_option maxRecDepth 200000 in
theorem ggL_law_X6_loose : GoodIn wsL_law wsX6_loose := goodIn_r _ [351, 294, 92, 113, 114, 5, 115, 295, 296, 297, 298, 120, 299, 300, 301, 302, 80, 88, 81, 89, 82, 90, 83, 303, 304, 305, 306, 84, 85, 307, 308, 309, 310, 311, 312, 91, 313, 314, 315, 316, 317, 318, 319, 320, 321, 322, 86, 323, 87, 324, 325, 326, 327, 328, 329, 330, 331, 332, 333, 334, 335, 336, 337, 338, 339, 93, 340, 341, 342, 343, 293, 292, 94, 95, 96, 97, 423, 424, 425, 426, 427, 428, 429, 430, 431, 432, 433, 434, 435, 436, 437, 438, 439, 440, 441, 442, 443, 444, 445, 446, 447, 448] rfl (by decide +kernel)
set_option maxRecDepth 20000 in
theorem gL_law_X6_loose : GoodIn wsL_law (wsV RL 53 RX6 yX6_loose wsX6_loose) := goodIn_app (goodIn_of _ (by decide +kernel)) ggL_law_X6_loose
set_option maxRecDepth 200000 in
theorem ggL_law_X5_lines : GoodIn wsL_law wsX5_lines := goodIn_r _ [355, 31, 419, 420, 421, 422, 465, 466, 467, 468, 469, 470, 471] rfl (by decide +kernel)
set_option maxRecDepth 20000 in
theorem gL_law_X5_lines : GoodIn wsL_law (wsV RL 54 RX5 yX5_lines wsX5_lines) := goodIn_app (goodIn_of _ (by decide +kernel)) ggL_law_X5_lines
set_option maxRecDepth 200000 in
theorem ggL_law_X6_lines : GoodIn wsL_law wsX6_lines := goodIn_r _ [359, 292, 423, 424, 425, 426, 427, 428, 429, 430, 431, 432, 433, 434, 435, 436, 437, 438, 439, 440, 441, 442, 443, 444, 445, 446, 447, 448] rfl (by decide +kernel)
set_option maxRecDepth 20000 in
theorem gL_law_X6_lines : GoodIn wsL_law (wsV RL 57 RX6 yX6_lines wsX6_lines) := goodIn_app (goodIn_of _ (by decide +kernel)) ggL_law_X6_lines
set_option maxRecDepth 200000 in
theorem ggL_law_X5_at : GoodIn wsL_law wsX5_at := goodIn_r _ [363, 31, 364, 30, 365, 366, 164, 419, 420, 421, 422, 465, 466, 467, 468, 469, 470, 471] rfl (by decide +kernel)
set_option maxRecDepth 20000 in
theorem gL_law_X5_at : GoodIn wsL_law (wsV RL 58 RX5 yX5_at wsX5_at) := goodIn_app (goodIn_of _ (by decide +kernel)) ggL_law_X5_at
set_option maxRecDepth 200000 in
theorem ggL_law_X6_at : GoodIn wsL_law wsX6_at := goodIn_r _ [370, 292, 94, 113, 114, 5, 115, 423, 424, 425, 426, 427, 428, 429, 430, 431, 432, 433, 434, 435, 436, 437, 438, 439, 440, 441, 442, 443, 444, 445, 446, 447, 448] rfl (by decide +kernel)
set_option maxRecDepth 20000 in
theorem gL_law_X6_at : GoodIn wsL_law (wsV RL 61 RX6 yX6_at wsX6_at) := goodIn_app (goodIn_of _ (by decide +kernel)) ggL_law_X6_at
set_option maxRecDepth 200000 in
theorem ggL_law_X5_lacks : GoodIn wsL_law wsX5_lacks := goodIn_r _ [374, 31, 364, 30, 365, 366, 164, 419, 420, 421, 422, 465, 466, 467, 468, 469, 470, 471] rfl (by decide +kernel)
set_option maxRecDepth 20000 in
theorem gL_law_X5_lacks : GoodIn wsL_law (wsV RL 62 RX5 yX5_lacks wsX5_lacks) := goodIn_app (goodIn_of _ (by decide +kernel)) ggL_law_X5_lacks
