set_option maxRecDepth 200000 in
theorem ggL_law_X6_lacks : GoodIn wsL_law wsX6_lacks := goodIn_r _ [378, 292, 95, 113, 114, 5, 115, 423, 424, 425, 426, 427, 428, 429, 430, 431, 432, 433, 434, 435, 436, 437, 438, 439, 440, 441, 442, 443, 444, 445, 446, 447, 448] rfl (by decide +kernel)
set_option maxRecDepth 20000 in
theorem gL_law_X6_lacks : GoodIn wsL_law (wsV RL 65 RX6 yX6_lacks wsX6_lacks) := goodIn_app (goodIn_of _ (by decide +kernel)) ggL_law_X6_lacks
set_option maxRecDepth 200000 in
theorem ggL_law_X5_badness : GoodIn wsL_law wsX5_badness := goodIn_r _ [382, 31, 364, 30, 365, 366, 164, 419, 420, 421, 422, 465, 466, 467, 468, 469, 470, 471] rfl (by decide +kernel)
set_option maxRecDepth 20000 in
theorem gL_law_X5_badness : GoodIn wsL_law (wsV RL 66 RX5 yX5_badness wsX5_badness) := goodIn_app (goodIn_of _ (by decide +kernel)) ggL_law_X5_badness
set_option maxRecDepth 200000 in
theorem ggL_law_X6_badness : GoodIn wsL_law wsX6_badness := goodIn_r _ [386, 292, 96, 113, 114, 5, 115, 423, 424, 425, 426, 427, 428, 429, 430, 431, 432, 433, 434, 435, 436, 437, 438, 439, 440, 441, 442, 443, 444, 445, 446, 447, 448] rfl (by decide +kernel)
set_option maxRecDepth 20000 in
theorem gL_law_X6_badness : GoodIn wsL_law (wsV RL 69 RX6 yX6_badness wsX6_badness) := goodIn_app (goodIn_of _ (by decide +kernel)) ggL_law_X6_badness
set_option maxRecDepth 200000 in
theorem ggL_law_X5_classOf : GoodIn wsL_law wsX5_classOf := goodIn_r _ [390, 31, 364, 30, 365, 366, 164, 419, 420, 421, 422, 465, 466, 467, 468, 469, 470, 471] rfl (by decide +kernel)
set_option maxRecDepth 20000 in
theorem gL_law_X5_classOf : GoodIn wsL_law (wsV RL 70 RX5 yX5_classOf wsX5_classOf) := goodIn_app (goodIn_of _ (by decide +kernel)) ggL_law_X5_classOf
set_option maxRecDepth 200000 in
theorem ggL_law_X6_classOf : GoodIn wsL_law wsX6_classOf := goodIn_r _ [394, 292, 97, 113, 114, 5, 115, 423, 424, 425, 426, 427, 428, 429, 430, 431, 432, 433, 434, 435, 436, 437, 438, 439, 440, 441, 442, 443, 444, 445, 446, 447, 448] rfl (by decide +kernel)
set_option maxRecDepth 20000 in
theorem gL_law_X6_classOf : GoodIn wsL_law (wsV RL 73 RX6 yX6_classOf wsX6_classOf) := goodIn_app (goodIn_of _ (by decide +kernel)) ggL_law_X6_classOf
set_option maxRecDepth 200000 in
theorem ggL_law_X5_demerits : GoodIn wsL_law wsX5_demerits := goodIn_r _ [398, 31, 419, 420, 421, 422, 465, 466, 467, 468, 469, 470, 471] rfl (by decide +kernel)
set_option maxRecDepth 20000 in
theorem gL_law_X5_demerits : GoodIn wsL_law (wsV RL 74 RX5 yX5_demerits wsX5_demerits) := goodIn_app (goodIn_of _ (by decide +kernel)) ggL_law_X5_demerits
set_option maxRecDepth 200000 in
theorem ggL_law_X6_demerits : GoodIn wsL_law wsX6_demerits := goodIn_r _ [402, 293, 423, 424, 425, 426, 427, 428, 429, 430, 431, 432, 433, 434, 435, 436, 437, 438, 439, 440, 441, 442, 443, 444, 445, 446, 447, 448] rfl (by decide +kernel)
set_option maxRecDepth 20000 in
theorem gL_law_X6_demerits : GoodIn wsL_law (wsV RL 78 RX6 yX6_demerits wsX6_demerits) := goodIn_app (goodIn_of _ (by decide +kernel)) ggL_law_X6_demerits
set_option maxRecDepth 200000 in
theorem ggL_law_X5_pass : GoodIn wsL_law wsX5_pass := goodIn_r _ [406, 31, 419, 420, 421, 422, 465, 466, 467, 468, 469, 470, 471] rfl (by decide +kernel)
set_option maxRecDepth 20000 in
theorem gL_law_X5_pass : GoodIn wsL_law (wsV RL 79 RX5 yX5_pass wsX5_pass) := goodIn_app (goodIn_of _ (by decide +kernel)) ggL_law_X5_pass
set_option maxRecDepth 200000 in
theorem ggL_law_X6_pass : GoodIn wsL_law wsX6_pass := goodIn_r _ [410, 294, 423, 424, 425, 426, 427, 428, 429, 430, 431, 432, 433, 434, 435, 436, 437, 438, 439, 440, 441, 442, 443, 444, 445, 446, 447, 448] rfl (by decide +kernel)
set_option maxRecDepth 20000 in
theorem gL_law_X6_pass : GoodIn wsL_law (wsV RL 82 RX6 yX6_pass wsX6_pass) := goodIn_app (goodIn_of _ (by decide +kernel)) ggL_law_X6_pass
set_option maxRecDepth 200000 in
theorem ggL_law_X5_clear : GoodIn wsL_law wsX5_clear := goodIn_r _ [414, 19, 419, 420, 421, 422, 449, 450, 451, 452, 453, 454, 455, 456] rfl (by decide +kernel)
set_option maxRecDepth 20000 in
theorem gL_law_X5_clear : GoodIn wsL_law (wsV RL 83 RX5 yX5_clear wsX5_clear) := goodIn_app (goodIn_of _ (by decide +kernel)) ggL_law_X5_clear
set_option maxRecDepth 200000 in
theorem ggL_law_X6_clear : GoodIn wsL_law wsX6_clear := goodIn_r _ [418, 120, 423, 424, 425, 426, 427, 428, 429, 430, 431, 432, 433, 434, 435, 436, 437, 438, 439, 440, 441, 442, 443, 444, 445, 446, 447, 448] rfl (by decide +kernel)
set_option maxRecDepth 20000 in
theorem gL_law_X6_clear : GoodIn wsL_law (wsV RL 86 RX6 yX6_clear wsX6_clear) := goodIn_app (goodIn_of _ (by decide +kernel)) ggL_law_X6_clear
