set_option maxRecDepth 200000 in
theorem wsL_law_in : ∀ w ∈ wsL_law, w ∈ lw_tbl := fun w h => (goodIn_p wsL_law [427, 52, 55, 60, 98, 102, 117, 123, 168, 432, 217, 220, 224, 516, 519, 523, 228, 527, 232, 236, 531, 241, 535, 245, 539, 249, 253, 257, 261, 264, 269, 273, 277, 281, 285, 289, 293, 297, 308, 301, 305, 312, 317, 321, 324, 329, 333, 338, 342, 346, 351, 356, 360, 364, 367, 372, 376, 380, 384, 543, 547, 551, 555, 559, 563, 567, 572, 578, 584, 588, 388, 592, 392, 596, 396, 400, 600, 404, 604, 408, 608, 412, 612, 416, 616, 420, 620, 424, 624] rfl (by decide +kernel) w h).1
theorem inX0 : ∀ w ∈ wsX00, w ∈ lw_tbl := fun w h => wsL_law_in w (inlX0 w h)
theorem inX1 : ∀ w ∈ wsX10, w ∈ lw_tbl := fun w h => wsL_law_in w (inlX1 w h)
theorem inX2 : ∀ w ∈ wsX20, w ∈ lw_tbl := fun w h => wsL_law_in w (inlX2 w h)
theorem inX3 : ∀ w ∈ wsX30, w ∈ lw_tbl := fun w h => wsL_law_in w (inlX3 w h)
theorem inX4 : ∀ w ∈ wsX40, w ∈ lw_tbl := fun w h => wsL_law_in w (inlX4 w h)
theorem inX5 : ∀ w ∈ wsX50, w ∈ lw_tbl := fun w h => wsL_law_in w (inlX5 w h)
theorem inX6 : ∀ w ∈ wsX60, w ∈ lw_tbl := fun w h => wsL_law_in w (inlX6 w h)
