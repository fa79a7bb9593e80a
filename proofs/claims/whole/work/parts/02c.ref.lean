theorem dX6_init_0 : decode cX6_init 0 = .ok (.aload_n 0, 1) := by decide +kernel
theorem dX6_init_1 : decode cX6_init 1 = .ok (.invokespecial 1, 3) := by decide +kernel
theorem dX6_init_4 : decode cX6_init 4 = .ok (.aload_n 0, 1) := by decide +kernel
theorem dX6_init_5 : decode cX6_init 5 = .ok (.bipush 100, 2) := by decide +kernel
theorem dX6_init_7 : decode cX6_init 7 = .ok (.newarray .int, 2) := by decide +kernel
theorem dX6_init_9 : decode cX6_init 9 = .ok (.putfield 7, 3) := by decide +kernel
theorem dX6_init_12 : decode cX6_init 12 = .ok (.aload_n 0, 1) := by decide +kernel
theorem dX6_init_13 : decode cX6_init 13 = .ok (.bipush 100, 2) := by decide +kernel
theorem dX6_init_15 : decode cX6_init 15 = .ok (.newarray .int, 2) := by decide +kernel
theorem dX6_init_17 : decode cX6_init 17 = .ok (.putfield 13, 3) := by decide +kernel
theorem dX6_init_20 : decode cX6_init 20 = .ok (.aload_n 0, 1) := by decide +kernel
theorem dX6_init_21 : decode cX6_init 21 = .ok (.bipush 100, 2) := by decide +kernel
theorem dX6_init_23 : decode cX6_init 23 = .ok (.newarray .int, 2) := by decide +kernel
theorem dX6_init_25 : decode cX6_init 25 = .ok (.putfield 16, 3) := by decide +kernel
theorem dX6_init_28 : decode cX6_init 28 = .ok (.aload_n 0, 1) := by decide +kernel
theorem dX6_init_29 : decode cX6_init 29 = .ok (.bipush 100, 2) := by decide +kernel
theorem dX6_init_31 : decode cX6_init 31 = .ok (.newarray .int, 2) := by decide +kernel
theorem dX6_init_33 : decode cX6_init 33 = .ok (.putfield 19, 3) := by decide +kernel
theorem dX6_init_36 : decode cX6_init 36 = .ok (.aload_n 0, 1) := by decide +kernel
theorem dX6_init_37 : decode cX6_init 37 = .ok (.bipush 100, 2) := by decide +kernel
theorem dX6_init_39 : decode cX6_init 39 = .ok (.newarray .int, 2) := by decide +kernel
theorem dX6_init_41 : decode cX6_init 41 = .ok (.putfield 22, 3) := by decide +kernel
theorem dX6_init_44 : decode cX6_init 44 = .ok (.aload_n 0, 1) := by decide +kernel
theorem dX6_init_45 : decode cX6_init 45 = .ok (.bipush 100, 2) := by decide +kernel
theorem dX6_init_47 : decode cX6_init 47 = .ok (.newarray .boolean, 2) := by decide +kernel
theorem dX6_init_49 : decode cX6_init 49 = .ok (.putfield 25, 3) := by decide +kernel
theorem dX6_init_52 : decode cX6_init 52 = .ok (.aload_n 0, 1) := by decide +kernel
theorem dX6_init_53 : decode cX6_init 53 = .ok (.bipush 50, 2) := by decide +kernel
theorem dX6_init_55 : decode cX6_init 55 = .ok (.newarray .int, 2) := by decide +kernel
theorem dX6_init_57 : decode cX6_init 57 = .ok (.putfield 29, 3) := by decide +kernel
theorem dX6_init_60 : decode cX6_init 60 = .ok (.aload_n 0, 1) := by decide +kernel
theorem dX6_init_61 : decode cX6_init 61 = .ok (.iconst 3, 1) := by decide +kernel
theorem dX6_init_62 : decode cX6_init 62 = .ok (.newarray .int, 2) := by decide +kernel
theorem dX6_init_64 : decode cX6_init 64 = .ok (.dup, 1) := by decide +kernel
theorem dX6_init_65 : decode cX6_init 65 = .ok (.iconst 0, 1) := by decide +kernel
theorem dX6_init_66 : decode cX6_init 66 = .ok (.bipush 100, 2) := by decide +kernel
theorem dX6_init_68 : decode cX6_init 68 = .ok (.iastore, 1) := by decide +kernel
theorem dX6_init_69 : decode cX6_init 69 = .ok (.dup, 1) := by decide +kernel
theorem dX6_init_70 : decode cX6_init 70 = .ok (.iconst 1, 1) := by decide +kernel
theorem dX6_init_71 : decode cX6_init 71 = .ok (.sipush 200, 3) := by decide +kernel
theorem dX6_init_74 : decode cX6_init 74 = .ok (.iastore, 1) := by decide +kernel
theorem dX6_init_75 : decode cX6_init 75 = .ok (.dup, 1) := by decide +kernel
theorem dX6_init_76 : decode cX6_init 76 = .ok (.iconst 2, 1) := by decide +kernel
theorem dX6_init_77 : decode cX6_init 77 = .ok (.iconst 0, 1) := by decide +kernel
theorem dX6_init_78 : decode cX6_init 78 = .ok (.iastore, 1) := by decide +kernel
theorem dX6_init_79 : decode cX6_init 79 = .ok (.putfield 32, 3) := by decide +kernel
theorem dX6_init_82 : decode cX6_init 82 = .ok (.aload_n 0, 1) := by decide +kernel
theorem dX6_init_83 : decode cX6_init 83 = .ok (.bipush 101, 2) := by decide +kernel
theorem dX6_init_85 : decode cX6_init 85 = .ok (.newarray .int, 2) := by decide +kernel
theorem dX6_init_87 : decode cX6_init 87 = .ok (.putfield 35, 3) := by decide +kernel
theorem dX6_init_90 : decode cX6_init 90 = .ok (.aload_n 0, 1) := by decide +kernel
theorem dX6_init_91 : decode cX6_init 91 = .ok (.bipush 101, 2) := by decide +kernel
theorem dX6_init_93 : decode cX6_init 93 = .ok (.newarray .int, 2) := by decide +kernel
theorem dX6_init_95 : decode cX6_init 95 = .ok (.putfield 38, 3) := by decide +kernel
theorem dX6_init_98 : decode cX6_init 98 = .ok (.aload_n 0, 1) := by decide +kernel
theorem dX6_init_99 : decode cX6_init 99 = .ok (.bipush 101, 2) := by decide +kernel
theorem dX6_init_101 : decode cX6_init 101 = .ok (.newarray .int, 2) := by decide +kernel
theorem dX6_init_103 : decode cX6_init 103 = .ok (.putfield 41, 3) := by decide +kernel
theorem dX6_init_106 : decode cX6_init 106 = .ok (.aload_n 0, 1) := by decide +kernel
theorem dX6_init_107 : decode cX6_init 107 = .ok (.sipush 20604, 3) := by decide +kernel
theorem dX6_init_110 : decode cX6_init 110 = .ok (.newarray .long, 2) := by decide +kernel
theorem dX6_init_112 : decode cX6_init 112 = .ok (.putfield 44, 3) := by decide +kernel
theorem dX6_init_115 : decode cX6_init 115 = .ok (.aload_n 0, 1) := by decide +kernel
theorem dX6_init_116 : decode cX6_init 116 = .ok (.sipush 20604, 3) := by decide +kernel
theorem dX6_init_119 : decode cX6_init 119 = .ok (.newarray .int, 2) := by decide +kernel
theorem dX6_init_121 : decode cX6_init 121 = .ok (.putfield 48, 3) := by decide +kernel
theorem dX6_init_124 : decode cX6_init 124 = .ok (.aload_n 0, 1) := by decide +kernel
theorem dX6_init_125 : decode cX6_init 125 = .ok (.sipush 20604, 3) := by decide +kernel
theorem dX6_init_128 : decode cX6_init 128 = .ok (.newarray .int, 2) := by decide +kernel
theorem dX6_init_130 : decode cX6_init 130 = .ok (.putfield 51, 3) := by decide +kernel
theorem dX6_init_133 : decode cX6_init 133 = .ok (.aload_n 0, 1) := by decide +kernel
theorem dX6_init_134 : decode cX6_init 134 = .ok (.bipush 50, 2) := by decide +kernel
theorem dX6_init_136 : decode cX6_init 136 = .ok (.newarray .int, 2) := by decide +kernel
theorem dX6_init_138 : decode cX6_init 138 = .ok (.putfield 54, 3) := by decide +kernel
theorem dX6_init_141 : decode cX6_init 141 = .ok (.aload_n 0, 1) := by decide +kernel
theorem dX6_init_142 : decode cX6_init 142 = .ok (.bipush 50, 2) := by decide +kernel
theorem dX6_init_144 : decode cX6_init 144 = .ok (.newarray .int, 2) := by decide +kernel
theorem dX6_init_146 : decode cX6_init 146 = .ok (.putfield 57, 3) := by decide +kernel
theorem dX6_init_149 : decode cX6_init 149 = .ok (.aload_n 0, 1) := by decide +kernel
theorem dX6_init_150 : decode cX6_init 150 = .ok (.bipush 50, 2) := by decide +kernel
theorem dX6_init_152 : decode cX6_init 152 = .ok (.newarray .int, 2) := by decide +kernel
theorem dX6_init_154 : decode cX6_init 154 = .ok (.putfield 60, 3) := by decide +kernel
theorem dX6_init_157 : decode cX6_init 157 = .ok (.aload_n 0, 1) := by decide +kernel
theorem dX6_init_158 : decode cX6_init 158 = .ok (.bipush 50, 2) := by decide +kernel
theorem dX6_init_160 : decode cX6_init 160 = .ok (.newarray .int, 2) := by decide +kernel
theorem dX6_init_162 : decode cX6_init 162 = .ok (.putfield 63, 3) := by decide +kernel
theorem dX6_init_165 : decode cX6_init 165 = .ok (.iconst 0, 1) := by decide +kernel
theorem dX6_init_166 : decode cX6_init 166 = .ok (.istore_n 2, 1) := by decide +kernel
theorem dX6_init_167 : decode cX6_init 167 = .ok (.iload_n 2, 1) := by decide +kernel
theorem dX6_init_168 : decode cX6_init 168 = .ok (.bipush 50, 2) := by decide +kernel
theorem dX6_init_170 : decode cX6_init 170 = .ok (.if_icmp .ge 20, 3) := by decide +kernel
theorem dX6_init_173 : decode cX6_init 173 = .ok (.aload_n 0, 1) := by decide +kernel
theorem dX6_init_174 : decode cX6_init 174 = .ok (.getfield 29, 3) := by decide +kernel
theorem dX6_init_177 : decode cX6_init 177 = .ok (.iload_n 2, 1) := by decide +kernel
theorem dX6_init_178 : decode cX6_init 178 = .ok (.iload_n 1, 1) := by decide +kernel
theorem dX6_init_179 : decode cX6_init 179 = .ok (.sipush 16383, 3) := by decide +kernel
theorem dX6_init_182 : decode cX6_init 182 = .ok (.iand, 1) := by decide +kernel
theorem dX6_init_183 : decode cX6_init 183 = .ok (.iastore, 1) := by decide +kernel
theorem dX6_init_184 : decode cX6_init 184 = .ok (.iinc 2 1, 3) := by decide +kernel
theorem dX6_init_187 : decode cX6_init 187 = .ok (.goto (-20), 3) := by decide +kernel
theorem dX6_init_190 : decode cX6_init 190 = .ok (.return_, 1) := by decide +kernel
theorem dX6_in_0 : decode cX6_in 0 = .ok (.iload_n 0, 1) := by decide +kernel
theorem dX6_in_1 : decode cX6_in 1 = .ok (.iload_n 1, 1) := by decide +kernel
theorem dX6_in_2 : decode cX6_in 2 = .ok (.if_icmp .lt 12, 3) := by decide +kernel
theorem dX6_in_5 : decode cX6_in 5 = .ok (.iload_n 0, 1) := by decide +kernel
theorem dX6_in_6 : decode cX6_in 6 = .ok (.iload_n 2, 1) := by decide +kernel
theorem dX6_in_7 : decode cX6_in 7 = .ok (.if_icmp .gt 7, 3) := by decide +kernel
theorem dX6_in_10 : decode cX6_in 10 = .ok (.iconst 1, 1) := by decide +kernel
theorem dX6_in_11 : decode cX6_in 11 = .ok (.goto 4, 3) := by decide +kernel
theorem dX6_in_14 : decode cX6_in 14 = .ok (.iconst 0, 1) := by decide +kernel
theorem dX6_in_15 : decode cX6_in 15 = .ok (.ireturn, 1) := by decide +kernel
theorem dX6_add_0 : decode cX6_add 0 = .ok (.aload_n 0, 1) := by decide +kernel
theorem dX6_add_1 : decode cX6_add 1 = .ok (.getfield 66, 3) := by decide +kernel
theorem dX6_add_4 : decode cX6_add 4 = .ok (.bipush 100, 2) := by decide +kernel
theorem dX6_add_6 : decode cX6_add 6 = .ok (.if_icmp .ne 6, 3) := by decide +kernel
theorem dX6_add_9 : decode cX6_add 9 = .ok (.bipush (-2), 2) := by decide +kernel
theorem dX6_add_11 : decode cX6_add 11 = .ok (.ireturn, 1) := by decide +kernel
theorem dX6_add_12 : decode cX6_add 12 = .ok (.aload_n 0, 1) := by decide +kernel
theorem dX6_add_13 : decode cX6_add 13 = .ok (.getfield 7, 3) := by decide +kernel
theorem dX6_add_16 : decode cX6_add 16 = .ok (.aload_n 0, 1) := by decide +kernel
theorem dX6_add_17 : decode cX6_add 17 = .ok (.getfield 66, 3) := by decide +kernel
theorem dX6_add_20 : decode cX6_add 20 = .ok (.iload_n 1, 1) := by decide +kernel
theorem dX6_add_21 : decode cX6_add 21 = .ok (.iastore, 1) := by decide +kernel
theorem dX6_add_22 : decode cX6_add 22 = .ok (.aload_n 0, 1) := by decide +kernel
theorem dX6_add_23 : decode cX6_add 23 = .ok (.getfield 13, 3) := by decide +kernel
theorem dX6_add_26 : decode cX6_add 26 = .ok (.aload_n 0, 1) := by decide +kernel
theorem dX6_add_27 : decode cX6_add 27 = .ok (.getfield 66, 3) := by decide +kernel
theorem dX6_add_30 : decode cX6_add 30 = .ok (.iload_n 2, 1) := by decide +kernel
theorem dX6_add_31 : decode cX6_add 31 = .ok (.iastore, 1) := by decide +kernel
theorem dX6_add_32 : decode cX6_add 32 = .ok (.aload_n 0, 1) := by decide +kernel
theorem dX6_add_33 : decode cX6_add 33 = .ok (.getfield 16, 3) := by decide +kernel
theorem dX6_add_36 : decode cX6_add 36 = .ok (.aload_n 0, 1) := by decide +kernel
theorem dX6_add_37 : decode cX6_add 37 = .ok (.getfield 66, 3) := by decide +kernel
theorem dX6_add_40 : decode cX6_add 40 = .ok (.iload_n 3, 1) := by decide +kernel
theorem dX6_add_41 : decode cX6_add 41 = .ok (.iastore, 1) := by decide +kernel
theorem dX6_add_42 : decode cX6_add 42 = .ok (.aload_n 0, 1) := by decide +kernel
theorem dX6_add_43 : decode cX6_add 43 = .ok (.getfield 19, 3) := by decide +kernel
theorem dX6_add_46 : decode cX6_add 46 = .ok (.aload_n 0, 1) := by decide +kernel
theorem dX6_add_47 : decode cX6_add 47 = .ok (.getfield 66, 3) := by decide +kernel
theorem dX6_add_50 : decode cX6_add 50 = .ok (.iload 4, 2) := by decide +kernel
theorem dX6_add_52 : decode cX6_add 52 = .ok (.iastore, 1) := by decide +kernel
theorem dX6_add_53 : decode cX6_add 53 = .ok (.aload_n 0, 1) := by decide +kernel
theorem dX6_add_54 : decode cX6_add 54 = .ok (.getfield 22, 3) := by decide +kernel
theorem dX6_add_57 : decode cX6_add 57 = .ok (.aload_n 0, 1) := by decide +kernel
theorem dX6_add_58 : decode cX6_add 58 = .ok (.getfield 66, 3) := by decide +kernel
theorem dX6_add_61 : decode cX6_add 61 = .ok (.iload 5, 2) := by decide +kernel
theorem dX6_add_63 : decode cX6_add 63 = .ok (.iastore, 1) := by decide +kernel
theorem dX6_add_64 : decode cX6_add 64 = .ok (.aload_n 0, 1) := by decide +kernel
theorem dX6_add_65 : decode cX6_add 65 = .ok (.getfield 25, 3) := by decide +kernel
theorem dX6_add_68 : decode cX6_add 68 = .ok (.aload_n 0, 1) := by decide +kernel
theorem dX6_add_69 : decode cX6_add 69 = .ok (.getfield 66, 3) := by decide +kernel
theorem dX6_add_72 : decode cX6_add 72 = .ok (.iload 6, 2) := by decide +kernel
theorem dX6_add_74 : decode cX6_add 74 = .ok (.bastore, 1) := by decide +kernel
theorem dX6_add_75 : decode cX6_add 75 = .ok (.aload_n 0, 1) := by decide +kernel
theorem dX6_add_76 : decode cX6_add 76 = .ok (.dup, 1) := by decide +kernel
theorem dX6_add_77 : decode cX6_add 77 = .ok (.getfield 66, 3) := by decide +kernel
theorem dX6_add_80 : decode cX6_add 80 = .ok (.iconst 1, 1) := by decide +kernel
theorem dX6_add_81 : decode cX6_add 81 = .ok (.iadd, 1) := by decide +kernel
theorem dX6_add_82 : decode cX6_add 82 = .ok (.putfield 66, 3) := by decide +kernel
theorem dX6_add_85 : decode cX6_add 85 = .ok (.aload_n 0, 1) := by decide +kernel
theorem dX6_add_86 : decode cX6_add 86 = .ok (.getfield 66, 3) := by decide +kernel
theorem dX6_add_89 : decode cX6_add 89 = .ok (.iconst 1, 1) := by decide +kernel
theorem dX6_add_90 : decode cX6_add 90 = .ok (.isub, 1) := by decide +kernel
theorem dX6_add_91 : decode cX6_add 91 = .ok (.ireturn, 1) := by decide +kernel
set_option maxRecDepth 20000 in
theorem ggX6_box_X6_in : GoodIn wsX6_box wsX6_in := goodIn_r _ [4] (by decide +kernel) (by decide +kernel)
set_option maxRecDepth 20000 in
theorem gX6_box_X6_in : GoodIn wsX6_box (va_wsS RX6 70 yX6_in wsX6_in) := goodIn_app (goodIn_of _ (by decide +kernel)) ggX6_box_X6_in
set_option maxRecDepth 20000 in
theorem ggX6_box_X6_add : GoodIn wsX6_box wsX6_add := goodIn_r _ [8, 9, 10, 11, 12, 13, 14, 15, 16, 17, 18, 19, 20, 21, 22, 23, 24, 25, 26, 27, 28, 29, 30, 31, 32, 33, 34, 35, 36, 37, 38, 39, 40, 41] (by decide +kernel) (by decide +kernel)
set_option maxRecDepth 20000 in
theorem gX6_box_X6_add : GoodIn wsX6_box (wsV RX6 74 RX6 yX6_add wsX6_add) := goodIn_app (goodIn_of _ (by decide +kernel)) ggX6_box_X6_add
theorem dX6_box_0 : decode cX6_box 0 = .ok (.iload_n 1, 1) := by decide +kernel
theorem dX6_box_1 : decode cX6_box 1 = .ok (.iconst 0, 1) := by decide +kernel
theorem dX6_box_2 : decode cX6_box 2 = .ok (.sipush 10000, 3) := by decide +kernel
theorem dX6_box_5 : decode cX6_box 5 = .ok (.invokestatic 70, 3) := by decide +kernel
theorem dX6_box_8 : decode cX6_box 8 = .ok (.ifCond .eq 16, 3) := by decide +kernel
theorem dX6_box_11 : decode cX6_box 11 = .ok (.aload_n 0, 1) := by decide +kernel
theorem dX6_box_12 : decode cX6_box 12 = .ok (.iconst 0, 1) := by decide +kernel
theorem dX6_box_13 : decode cX6_box 13 = .ok (.iload_n 1, 1) := by decide +kernel
theorem dX6_box_14 : decode cX6_box 14 = .ok (.iconst 0, 1) := by decide +kernel
theorem dX6_box_15 : decode cX6_box 15 = .ok (.iconst 0, 1) := by decide +kernel
theorem dX6_box_16 : decode cX6_box 16 = .ok (.iconst 0, 1) := by decide +kernel
theorem dX6_box_17 : decode cX6_box 17 = .ok (.iconst 0, 1) := by decide +kernel
theorem dX6_box_18 : decode cX6_box 18 = .ok (.invokevirtual 74, 3) := by decide +kernel
theorem dX6_box_21 : decode cX6_box 21 = .ok (.goto 4, 3) := by decide +kernel
theorem dX6_box_24 : decode cX6_box 24 = .ok (.iconst (-1), 1) := by decide +kernel
theorem dX6_box_25 : decode cX6_box 25 = .ok (.ireturn, 1) := by decide +kernel
set_option maxRecDepth 20000 in
theorem ggX6_glue_X6_in : GoodIn wsX6_glue wsX6_in := goodIn_r _ [4] (by decide +kernel) (by decide +kernel)
set_option maxRecDepth 20000 in
theorem gX6_glue_X6_in : GoodIn wsX6_glue (va_wsS RX6 70 yX6_in wsX6_in) := goodIn_app (goodIn_of _ (by decide +kernel)) ggX6_glue_X6_in
set_option maxRecDepth 20000 in
theorem ggX6_glue_X6_add : GoodIn wsX6_glue wsX6_add := goodIn_r _ [8, 9, 10, 11, 12, 13, 14, 15, 16, 17, 18, 19, 20, 21, 22, 23, 24, 25, 26, 27, 28, 29, 30, 31, 32, 33, 34, 35, 36, 37, 38, 39, 40, 41] (by decide +kernel) (by decide +kernel)
set_option maxRecDepth 20000 in
theorem gX6_glue_X6_add : GoodIn wsX6_glue (wsV RX6 74 RX6 yX6_add wsX6_add) := goodIn_app (goodIn_of _ (by decide +kernel)) ggX6_glue_X6_add
theorem dX6_glue_0 : decode cX6_glue 0 = .ok (.iload_n 1, 1) := by decide +kernel
theorem dX6_glue_1 : decode cX6_glue 1 = .ok (.iconst 0, 1) := by decide +kernel
theorem dX6_glue_2 : decode cX6_glue 2 = .ok (.sipush 10000, 3) := by decide +kernel
theorem dX6_glue_5 : decode cX6_glue 5 = .ok (.invokestatic 70, 3) := by decide +kernel
theorem dX6_glue_8 : decode cX6_glue 8 = .ok (.ifCond .eq 38, 3) := by decide +kernel
theorem dX6_glue_11 : decode cX6_glue 11 = .ok (.iload_n 2, 1) := by decide +kernel
theorem dX6_glue_12 : decode cX6_glue 12 = .ok (.iconst 0, 1) := by decide +kernel
theorem dX6_glue_13 : decode cX6_glue 13 = .ok (.sipush 10000, 3) := by decide +kernel
theorem dX6_glue_16 : decode cX6_glue 16 = .ok (.invokestatic 70, 3) := by decide +kernel
theorem dX6_glue_19 : decode cX6_glue 19 = .ok (.ifCond .eq 27, 3) := by decide +kernel
theorem dX6_glue_22 : decode cX6_glue 22 = .ok (.iload_n 3, 1) := by decide +kernel
theorem dX6_glue_23 : decode cX6_glue 23 = .ok (.iconst 0, 1) := by decide +kernel
theorem dX6_glue_24 : decode cX6_glue 24 = .ok (.sipush 1000, 3) := by decide +kernel
theorem dX6_glue_27 : decode cX6_glue 27 = .ok (.invokestatic 70, 3) := by decide +kernel
theorem dX6_glue_30 : decode cX6_glue 30 = .ok (.ifCond .eq 16, 3) := by decide +kernel
theorem dX6_glue_33 : decode cX6_glue 33 = .ok (.aload_n 0, 1) := by decide +kernel
theorem dX6_glue_34 : decode cX6_glue 34 = .ok (.iconst 1, 1) := by decide +kernel
theorem dX6_glue_35 : decode cX6_glue 35 = .ok (.iload_n 1, 1) := by decide +kernel
theorem dX6_glue_36 : decode cX6_glue 36 = .ok (.iload_n 2, 1) := by decide +kernel
theorem dX6_glue_37 : decode cX6_glue 37 = .ok (.iload_n 3, 1) := by decide +kernel
theorem dX6_glue_38 : decode cX6_glue 38 = .ok (.iconst 0, 1) := by decide +kernel
theorem dX6_glue_39 : decode cX6_glue 39 = .ok (.iconst 0, 1) := by decide +kernel
theorem dX6_glue_40 : decode cX6_glue 40 = .ok (.invokevirtual 74, 3) := by decide +kernel
theorem dX6_glue_43 : decode cX6_glue 43 = .ok (.goto 4, 3) := by decide +kernel
theorem dX6_glue_46 : decode cX6_glue 46 = .ok (.iconst (-1), 1) := by decide +kernel
theorem dX6_glue_47 : decode cX6_glue 47 = .ok (.ireturn, 1) := by decide +kernel
set_option maxRecDepth 20000 in
theorem ggX6_penalty_X6_in : GoodIn wsX6_penalty wsX6_in := goodIn_r _ [4] (by decide +kernel) (by decide +kernel)
set_option maxRecDepth 20000 in
theorem gX6_penalty_X6_in : GoodIn wsX6_penalty (va_wsS RX6 70 yX6_in wsX6_in) := goodIn_app (goodIn_of _ (by decide +kernel)) ggX6_penalty_X6_in
set_option maxRecDepth 20000 in
theorem ggX6_penalty_X6_add : GoodIn wsX6_penalty wsX6_add := goodIn_r _ [8, 9, 10, 11, 12, 13, 14, 15, 16, 17, 18, 19, 20, 21, 22, 23, 24, 25, 26, 27, 28, 29, 30, 31, 32, 33, 34, 35, 36, 37, 38, 39, 40, 41] (by decide +kernel) (by decide +kernel)
set_option maxRecDepth 20000 in
theorem gX6_penalty_X6_add : GoodIn wsX6_penalty (wsV RX6 74 RX6 yX6_add wsX6_add) := goodIn_app (goodIn_of _ (by decide +kernel)) ggX6_penalty_X6_add
theorem dX6_penalty_0 : decode cX6_penalty 0 = .ok (.iload_n 1, 1) := by decide +kernel
theorem dX6_penalty_1 : decode cX6_penalty 1 = .ok (.sipush (-10000), 3) := by decide +kernel
theorem dX6_penalty_4 : decode cX6_penalty 4 = .ok (.sipush 10000, 3) := by decide +kernel
theorem dX6_penalty_7 : decode cX6_penalty 7 = .ok (.invokestatic 70, 3) := by decide +kernel
theorem dX6_penalty_10 : decode cX6_penalty 10 = .ok (.ifCond .eq 27, 3) := by decide +kernel
theorem dX6_penalty_13 : decode cX6_penalty 13 = .ok (.iload_n 2, 1) := by decide +kernel
theorem dX6_penalty_14 : decode cX6_penalty 14 = .ok (.iconst 0, 1) := by decide +kernel
theorem dX6_penalty_15 : decode cX6_penalty 15 = .ok (.sipush 10000, 3) := by decide +kernel
theorem dX6_penalty_18 : decode cX6_penalty 18 = .ok (.invokestatic 70, 3) := by decide +kernel
theorem dX6_penalty_21 : decode cX6_penalty 21 = .ok (.ifCond .eq 16, 3) := by decide +kernel
theorem dX6_penalty_24 : decode cX6_penalty 24 = .ok (.aload_n 0, 1) := by decide +kernel
theorem dX6_penalty_25 : decode cX6_penalty 25 = .ok (.iconst 2, 1) := by decide +kernel
theorem dX6_penalty_26 : decode cX6_penalty 26 = .ok (.iload_n 2, 1) := by decide +kernel
theorem dX6_penalty_27 : decode cX6_penalty 27 = .ok (.iconst 0, 1) := by decide +kernel
theorem dX6_penalty_28 : decode cX6_penalty 28 = .ok (.iconst 0, 1) := by decide +kernel
theorem dX6_penalty_29 : decode cX6_penalty 29 = .ok (.iload_n 1, 1) := by decide +kernel
theorem dX6_penalty_30 : decode cX6_penalty 30 = .ok (.iload_n 3, 1) := by decide +kernel
theorem dX6_penalty_31 : decode cX6_penalty 31 = .ok (.invokevirtual 74, 3) := by decide +kernel
theorem dX6_penalty_34 : decode cX6_penalty 34 = .ok (.goto 4, 3) := by decide +kernel
theorem dX6_penalty_37 : decode cX6_penalty 37 = .ok (.iconst (-1), 1) := by decide +kernel
theorem dX6_penalty_38 : decode cX6_penalty 38 = .ok (.ireturn, 1) := by decide +kernel
set_option maxRecDepth 20000 in
theorem ggX6_shape_X6_in : GoodIn wsX6_shape wsX6_in := goodIn_r _ [5] (by decide +kernel) (by decide +kernel)
set_option maxRecDepth 20000 in
theorem gX6_shape_X6_in : GoodIn wsX6_shape (va_wsS RX6 70 yX6_in wsX6_in) := goodIn_app (goodIn_of _ (by decide +kernel)) ggX6_shape_X6_in
theorem dX6_shape_0 : decode cX6_shape 0 = .ok (.iload_n 1, 1) := by decide +kernel
theorem dX6_shape_1 : decode cX6_shape 1 = .ok (.iconst 0, 1) := by decide +kernel
theorem dX6_shape_2 : decode cX6_shape 2 = .ok (.bipush 49, 2) := by decide +kernel
theorem dX6_shape_4 : decode cX6_shape 4 = .ok (.invokestatic 70, 3) := by decide +kernel
theorem dX6_shape_7 : decode cX6_shape 7 = .ok (.ifCond .eq 14, 3) := by decide +kernel
theorem dX6_shape_10 : decode cX6_shape 10 = .ok (.iload_n 2, 1) := by decide +kernel
theorem dX6_shape_11 : decode cX6_shape 11 = .ok (.iconst 0, 1) := by decide +kernel
theorem dX6_shape_12 : decode cX6_shape 12 = .ok (.sipush 10000, 3) := by decide +kernel
theorem dX6_shape_15 : decode cX6_shape 15 = .ok (.invokestatic 70, 3) := by decide +kernel
theorem dX6_shape_18 : decode cX6_shape 18 = .ok (.ifCond .ne 5, 3) := by decide +kernel
theorem dX6_shape_21 : decode cX6_shape 21 = .ok (.iconst (-1), 1) := by decide +kernel
theorem dX6_shape_22 : decode cX6_shape 22 = .ok (.ireturn, 1) := by decide +kernel
theorem dX6_shape_23 : decode cX6_shape 23 = .ok (.aload_n 0, 1) := by decide +kernel
theorem dX6_shape_24 : decode cX6_shape 24 = .ok (.getfield 29, 3) := by decide +kernel
theorem dX6_shape_27 : decode cX6_shape 27 = .ok (.iload_n 1, 1) := by decide +kernel
theorem dX6_shape_28 : decode cX6_shape 28 = .ok (.iload_n 2, 1) := by decide +kernel
theorem dX6_shape_29 : decode cX6_shape 29 = .ok (.iastore, 1) := by decide +kernel
theorem dX6_shape_30 : decode cX6_shape 30 = .ok (.iconst 1, 1) := by decide +kernel
theorem dX6_shape_31 : decode cX6_shape 31 = .ok (.ireturn, 1) := by decide +kernel
set_option maxRecDepth 20000 in
theorem ggX6_setting_X6_in : GoodIn wsX6_setting wsX6_in := goodIn_r _ [5] (by decide +kernel) (by decide +kernel)
set_option maxRecDepth 20000 in
theorem gX6_setting_X6_in : GoodIn wsX6_setting (va_wsS RX6 70 yX6_in wsX6_in) := goodIn_app (goodIn_of _ (by decide +kernel)) ggX6_setting_X6_in
theorem dX6_setting_0 : decode cX6_setting 0 = .ok (.iload_n 1, 1) := by decide +kernel
theorem dX6_setting_1 : decode cX6_setting 1 = .ok (.iconst 0, 1) := by decide +kernel
theorem dX6_setting_2 : decode cX6_setting 2 = .ok (.iconst 2, 1) := by decide +kernel
theorem dX6_setting_3 : decode cX6_setting 3 = .ok (.invokestatic 70, 3) := by decide +kernel
theorem dX6_setting_6 : decode cX6_setting 6 = .ok (.ifCond .eq 23, 3) := by decide +kernel
theorem dX6_setting_9 : decode cX6_setting 9 = .ok (.iload_n 2, 1) := by decide +kernel
theorem dX6_setting_10 : decode cX6_setting 10 = .ok (.iload_n 1, 1) := by decide +kernel
theorem dX6_setting_11 : decode cX6_setting 11 = .ok (.iconst 2, 1) := by decide +kernel
theorem dX6_setting_12 : decode cX6_setting 12 = .ok (.if_icmp .ne 7, 3) := by decide +kernel
theorem dX6_setting_15 : decode cX6_setting 15 = .ok (.iconst 0, 1) := by decide +kernel
theorem dX6_setting_16 : decode cX6_setting 16 = .ok (.goto 4, 3) := by decide +kernel
theorem dX6_setting_19 : decode cX6_setting 19 = .ok (.iconst (-1), 1) := by decide +kernel
theorem dX6_setting_20 : decode cX6_setting 20 = .ok (.sipush 10000, 3) := by decide +kernel
theorem dX6_setting_23 : decode cX6_setting 23 = .ok (.invokestatic 70, 3) := by decide +kernel
theorem dX6_setting_26 : decode cX6_setting 26 = .ok (.ifCond .ne 5, 3) := by decide +kernel
theorem dX6_setting_29 : decode cX6_setting 29 = .ok (.iconst (-1), 1) := by decide +kernel
theorem dX6_setting_30 : decode cX6_setting 30 = .ok (.ireturn, 1) := by decide +kernel
theorem dX6_setting_31 : decode cX6_setting 31 = .ok (.aload_n 0, 1) := by decide +kernel
theorem dX6_setting_32 : decode cX6_setting 32 = .ok (.getfield 32, 3) := by decide +kernel
theorem dX6_setting_35 : decode cX6_setting 35 = .ok (.iload_n 1, 1) := by decide +kernel
theorem dX6_setting_36 : decode cX6_setting 36 = .ok (.iload_n 2, 1) := by decide +kernel
theorem dX6_setting_37 : decode cX6_setting 37 = .ok (.iastore, 1) := by decide +kernel
theorem dX6_setting_38 : decode cX6_setting 38 = .ok (.iconst 1, 1) := by decide +kernel
theorem dX6_setting_39 : decode cX6_setting 39 = .ok (.ireturn, 1) := by decide +kernel
theorem dX6_mayBreak_0 : decode cX6_mayBreak 0 = .ok (.iload_n 1, 1) := by decide +kernel
theorem dX6_mayBreak_1 : decode cX6_mayBreak 1 = .ok (.aload_n 0, 1) := by decide +kernel
theorem dX6_mayBreak_2 : decode cX6_mayBreak 2 = .ok (.getfield 66, 3) := by decide +kernel
theorem dX6_mayBreak_5 : decode cX6_mayBreak 5 = .ok (.if_icmp .ne 5, 3) := by decide +kernel
theorem dX6_mayBreak_8 : decode cX6_mayBreak 8 = .ok (.iconst 1, 1) := by decide +kernel
theorem dX6_mayBreak_9 : decode cX6_mayBreak 9 = .ok (.ireturn, 1) := by decide +kernel
theorem dX6_mayBreak_10 : decode cX6_mayBreak 10 = .ok (.aload_n 0, 1) := by decide +kernel
theorem dX6_mayBreak_11 : decode cX6_mayBreak 11 = .ok (.getfield 7, 3) := by decide +kernel
theorem dX6_mayBreak_14 : decode cX6_mayBreak 14 = .ok (.iload_n 1, 1) := by decide +kernel
theorem dX6_mayBreak_15 : decode cX6_mayBreak 15 = .ok (.iaload, 1) := by decide +kernel
theorem dX6_mayBreak_16 : decode cX6_mayBreak 16 = .ok (.iconst 1, 1) := by decide +kernel
theorem dX6_mayBreak_17 : decode cX6_mayBreak 17 = .ok (.if_icmp .ne 24, 3) := by decide +kernel
theorem dX6_mayBreak_20 : decode cX6_mayBreak 20 = .ok (.iload_n 1, 1) := by decide +kernel
theorem dX6_mayBreak_21 : decode cX6_mayBreak 21 = .ok (.ifCond .le 18, 3) := by decide +kernel
theorem dX6_mayBreak_24 : decode cX6_mayBreak 24 = .ok (.aload_n 0, 1) := by decide +kernel
theorem dX6_mayBreak_25 : decode cX6_mayBreak 25 = .ok (.getfield 7, 3) := by decide +kernel
theorem dX6_mayBreak_28 : decode cX6_mayBreak 28 = .ok (.iload_n 1, 1) := by decide +kernel
theorem dX6_mayBreak_29 : decode cX6_mayBreak 29 = .ok (.iconst 1, 1) := by decide +kernel
theorem dX6_mayBreak_30 : decode cX6_mayBreak 30 = .ok (.isub, 1) := by decide +kernel
theorem dX6_mayBreak_31 : decode cX6_mayBreak 31 = .ok (.iaload, 1) := by decide +kernel
theorem dX6_mayBreak_32 : decode cX6_mayBreak 32 = .ok (.ifCond .ne 7, 3) := by decide +kernel
theorem dX6_mayBreak_35 : decode cX6_mayBreak 35 = .ok (.iconst 1, 1) := by decide +kernel
theorem dX6_mayBreak_36 : decode cX6_mayBreak 36 = .ok (.goto 4, 3) := by decide +kernel
theorem dX6_mayBreak_39 : decode cX6_mayBreak 39 = .ok (.iconst 0, 1) := by decide +kernel
theorem dX6_mayBreak_40 : decode cX6_mayBreak 40 = .ok (.ireturn, 1) := by decide +kernel
theorem dX6_mayBreak_41 : decode cX6_mayBreak 41 = .ok (.aload_n 0, 1) := by decide +kernel
theorem dX6_mayBreak_42 : decode cX6_mayBreak 42 = .ok (.getfield 7, 3) := by decide +kernel
theorem dX6_mayBreak_45 : decode cX6_mayBreak 45 = .ok (.iload_n 1, 1) := by decide +kernel
theorem dX6_mayBreak_46 : decode cX6_mayBreak 46 = .ok (.iaload, 1) := by decide +kernel
theorem dX6_mayBreak_47 : decode cX6_mayBreak 47 = .ok (.iconst 2, 1) := by decide +kernel
theorem dX6_mayBreak_48 : decode cX6_mayBreak 48 = .ok (.if_icmp .ne 33, 3) := by decide +kernel
theorem dX6_mayBreak_51 : decode cX6_mayBreak 51 = .ok (.aload_n 0, 1) := by decide +kernel
theorem dX6_mayBreak_52 : decode cX6_mayBreak 52 = .ok (.getfield 22, 3) := by decide +kernel
theorem dX6_mayBreak_55 : decode cX6_mayBreak 55 = .ok (.iload_n 1, 1) := by decide +kernel
theorem dX6_mayBreak_56 : decode cX6_mayBreak 56 = .ok (.iaload, 1) := by decide +kernel
theorem dX6_mayBreak_57 : decode cX6_mayBreak 57 = .ok (.sipush 10000, 3) := by decide +kernel
theorem dX6_mayBreak_60 : decode cX6_mayBreak 60 = .ok (.if_icmp .ge 21, 3) := by decide +kernel
theorem dX6_mayBreak_63 : decode cX6_mayBreak 63 = .ok (.iload_n 2, 1) := by decide +kernel
theorem dX6_mayBreak_64 : decode cX6_mayBreak 64 = .ok (.iconst 1, 1) := by decide +kernel
theorem dX6_mayBreak_65 : decode cX6_mayBreak 65 = .ok (.if_icmp .ne 12, 3) := by decide +kernel
theorem dX6_mayBreak_68 : decode cX6_mayBreak 68 = .ok (.aload_n 0, 1) := by decide +kernel
theorem dX6_mayBreak_69 : decode cX6_mayBreak 69 = .ok (.getfield 25, 3) := by decide +kernel
theorem dX6_mayBreak_72 : decode cX6_mayBreak 72 = .ok (.iload_n 1, 1) := by decide +kernel
theorem dX6_mayBreak_73 : decode cX6_mayBreak 73 = .ok (.baload, 1) := by decide +kernel
theorem dX6_mayBreak_74 : decode cX6_mayBreak 74 = .ok (.ifCond .ne 7, 3) := by decide +kernel
theorem dX6_mayBreak_77 : decode cX6_mayBreak 77 = .ok (.iconst 1, 1) := by decide +kernel
theorem dX6_mayBreak_78 : decode cX6_mayBreak 78 = .ok (.goto 4, 3) := by decide +kernel
theorem dX6_mayBreak_81 : decode cX6_mayBreak 81 = .ok (.iconst 0, 1) := by decide +kernel
theorem dX6_mayBreak_82 : decode cX6_mayBreak 82 = .ok (.ireturn, 1) := by decide +kernel
theorem dX6_mustBreak_0 : decode cX6_mustBreak 0 = .ok (.iload_n 1, 1) := by decide +kernel
theorem dX6_mustBreak_1 : decode cX6_mustBreak 1 = .ok (.aload_n 0, 1) := by decide +kernel
theorem dX6_mustBreak_2 : decode cX6_mustBreak 2 = .ok (.getfield 66, 3) := by decide +kernel
theorem dX6_mustBreak_5 : decode cX6_mustBreak 5 = .ok (.if_icmp .ge 29, 3) := by decide +kernel
theorem dX6_mustBreak_8 : decode cX6_mustBreak 8 = .ok (.aload_n 0, 1) := by decide +kernel
theorem dX6_mustBreak_9 : decode cX6_mustBreak 9 = .ok (.getfield 7, 3) := by decide +kernel
theorem dX6_mustBreak_12 : decode cX6_mustBreak 12 = .ok (.iload_n 1, 1) := by decide +kernel
theorem dX6_mustBreak_13 : decode cX6_mustBreak 13 = .ok (.iaload, 1) := by decide +kernel
theorem dX6_mustBreak_14 : decode cX6_mustBreak 14 = .ok (.iconst 2, 1) := by decide +kernel
theorem dX6_mustBreak_15 : decode cX6_mustBreak 15 = .ok (.if_icmp .ne 19, 3) := by decide +kernel
theorem dX6_mustBreak_18 : decode cX6_mustBreak 18 = .ok (.aload_n 0, 1) := by decide +kernel
theorem dX6_mustBreak_19 : decode cX6_mustBreak 19 = .ok (.getfield 22, 3) := by decide +kernel
theorem dX6_mustBreak_22 : decode cX6_mustBreak 22 = .ok (.iload_n 1, 1) := by decide +kernel
theorem dX6_mustBreak_23 : decode cX6_mustBreak 23 = .ok (.iaload, 1) := by decide +kernel
theorem dX6_mustBreak_24 : decode cX6_mustBreak 24 = .ok (.sipush (-10000), 3) := by decide +kernel
theorem dX6_mustBreak_27 : decode cX6_mustBreak 27 = .ok (.if_icmp .ne 7, 3) := by decide +kernel
theorem dX6_mustBreak_30 : decode cX6_mustBreak 30 = .ok (.iconst 1, 1) := by decide +kernel
theorem dX6_mustBreak_31 : decode cX6_mustBreak 31 = .ok (.goto 4, 3) := by decide +kernel
theorem dX6_mustBreak_34 : decode cX6_mustBreak 34 = .ok (.iconst 0, 1) := by decide +kernel
theorem dX6_mustBreak_35 : decode cX6_mustBreak 35 = .ok (.ireturn, 1) := by decide +kernel
theorem dX6_sumUp_0 : decode cX6_sumUp 0 = .ok (.iconst 0, 1) := by decide +kernel
theorem dX6_sumUp_1 : decode cX6_sumUp 1 = .ok (.istore_n 1, 1) := by decide +kernel
theorem dX6_sumUp_2 : decode cX6_sumUp 2 = .ok (.iload_n 1, 1) := by decide +kernel
theorem dX6_sumUp_3 : decode cX6_sumUp 3 = .ok (.aload_n 0, 1) := by decide +kernel
theorem dX6_sumUp_4 : decode cX6_sumUp 4 = .ok (.getfield 66, 3) := by decide +kernel
theorem dX6_sumUp_7 : decode cX6_sumUp 7 = .ok (.if_icmp .ge 96, 3) := by decide +kernel
theorem dX6_sumUp_10 : decode cX6_sumUp 10 = .ok (.aload_n 0, 1) := by decide +kernel
theorem dX6_sumUp_11 : decode cX6_sumUp 11 = .ok (.getfield 7, 3) := by decide +kernel
theorem dX6_sumUp_14 : decode cX6_sumUp 14 = .ok (.iload_n 1, 1) := by decide +kernel
theorem dX6_sumUp_15 : decode cX6_sumUp 15 = .ok (.iaload, 1) := by decide +kernel
theorem dX6_sumUp_16 : decode cX6_sumUp 16 = .ok (.iconst 2, 1) := by decide +kernel
theorem dX6_sumUp_17 : decode cX6_sumUp 17 = .ok (.if_icmp .eq 7, 3) := by decide +kernel
theorem dX6_sumUp_20 : decode cX6_sumUp 20 = .ok (.iconst 1, 1) := by decide +kernel
theorem dX6_sumUp_21 : decode cX6_sumUp 21 = .ok (.goto 4, 3) := by decide +kernel
theorem dX6_sumUp_24 : decode cX6_sumUp 24 = .ok (.iconst 0, 1) := by decide +kernel
theorem dX6_sumUp_25 : decode cX6_sumUp 25 = .ok (.istore_n 2, 1) := by decide +kernel
theorem dX6_sumUp_26 : decode cX6_sumUp 26 = .ok (.aload_n 0, 1) := by decide +kernel
theorem dX6_sumUp_27 : decode cX6_sumUp 27 = .ok (.getfield 35, 3) := by decide +kernel
theorem dX6_sumUp_30 : decode cX6_sumUp 30 = .ok (.iload_n 1, 1) := by decide +kernel
theorem dX6_sumUp_31 : decode cX6_sumUp 31 = .ok (.iconst 1, 1) := by decide +kernel
theorem dX6_sumUp_32 : decode cX6_sumUp 32 = .ok (.iadd, 1) := by decide +kernel
theorem dX6_sumUp_33 : decode cX6_sumUp 33 = .ok (.aload_n 0, 1) := by decide +kernel
theorem dX6_sumUp_34 : decode cX6_sumUp 34 = .ok (.getfield 35, 3) := by decide +kernel
theorem dX6_sumUp_37 : decode cX6_sumUp 37 = .ok (.iload_n 1, 1) := by decide +kernel
theorem dX6_sumUp_38 : decode cX6_sumUp 38 = .ok (.iaload, 1) := by decide +kernel
theorem dX6_sumUp_39 : decode cX6_sumUp 39 = .ok (.iload_n 2, 1) := by decide +kernel
theorem dX6_sumUp_40 : decode cX6_sumUp 40 = .ok (.ifCond .eq 12, 3) := by decide +kernel
theorem dX6_sumUp_43 : decode cX6_sumUp 43 = .ok (.aload_n 0, 1) := by decide +kernel
theorem dX6_sumUp_44 : decode cX6_sumUp 44 = .ok (.getfield 13, 3) := by decide +kernel
theorem dX6_sumUp_47 : decode cX6_sumUp 47 = .ok (.iload_n 1, 1) := by decide +kernel
theorem dX6_sumUp_48 : decode cX6_sumUp 48 = .ok (.iaload, 1) := by decide +kernel
theorem dX6_sumUp_49 : decode cX6_sumUp 49 = .ok (.goto 4, 3) := by decide +kernel
theorem dX6_sumUp_52 : decode cX6_sumUp 52 = .ok (.iconst 0, 1) := by decide +kernel
theorem dX6_sumUp_53 : decode cX6_sumUp 53 = .ok (.iadd, 1) := by decide +kernel
theorem dX6_sumUp_54 : decode cX6_sumUp 54 = .ok (.iastore, 1) := by decide +kernel
theorem dX6_sumUp_55 : decode cX6_sumUp 55 = .ok (.aload_n 0, 1) := by decide +kernel
theorem dX6_sumUp_56 : decode cX6_sumUp 56 = .ok (.getfield 38, 3) := by decide +kernel
theorem dX6_sumUp_59 : decode cX6_sumUp 59 = .ok (.iload_n 1, 1) := by decide +kernel
theorem dX6_sumUp_60 : decode cX6_sumUp 60 = .ok (.iconst 1, 1) := by decide +kernel
theorem dX6_sumUp_61 : decode cX6_sumUp 61 = .ok (.iadd, 1) := by decide +kernel
theorem dX6_sumUp_62 : decode cX6_sumUp 62 = .ok (.aload_n 0, 1) := by decide +kernel
theorem dX6_sumUp_63 : decode cX6_sumUp 63 = .ok (.getfield 38, 3) := by decide +kernel
theorem dX6_sumUp_66 : decode cX6_sumUp 66 = .ok (.iload_n 1, 1) := by decide +kernel
theorem dX6_sumUp_67 : decode cX6_sumUp 67 = .ok (.iaload, 1) := by decide +kernel
theorem dX6_sumUp_68 : decode cX6_sumUp 68 = .ok (.aload_n 0, 1) := by decide +kernel
theorem dX6_sumUp_69 : decode cX6_sumUp 69 = .ok (.getfield 16, 3) := by decide +kernel
theorem dX6_sumUp_72 : decode cX6_sumUp 72 = .ok (.iload_n 1, 1) := by decide +kernel
theorem dX6_sumUp_73 : decode cX6_sumUp 73 = .ok (.iaload, 1) := by decide +kernel
theorem dX6_sumUp_74 : decode cX6_sumUp 74 = .ok (.iadd, 1) := by decide +kernel
theorem dX6_sumUp_75 : decode cX6_sumUp 75 = .ok (.iastore, 1) := by decide +kernel
theorem dX6_sumUp_76 : decode cX6_sumUp 76 = .ok (.aload_n 0, 1) := by decide +kernel
theorem dX6_sumUp_77 : decode cX6_sumUp 77 = .ok (.getfield 41, 3) := by decide +kernel
theorem dX6_sumUp_80 : decode cX6_sumUp 80 = .ok (.iload_n 1, 1) := by decide +kernel
theorem dX6_sumUp_81 : decode cX6_sumUp 81 = .ok (.iconst 1, 1) := by decide +kernel
theorem dX6_sumUp_82 : decode cX6_sumUp 82 = .ok (.iadd, 1) := by decide +kernel
theorem dX6_sumUp_83 : decode cX6_sumUp 83 = .ok (.aload_n 0, 1) := by decide +kernel
theorem dX6_sumUp_84 : decode cX6_sumUp 84 = .ok (.getfield 41, 3) := by decide +kernel
theorem dX6_sumUp_87 : decode cX6_sumUp 87 = .ok (.iload_n 1, 1) := by decide +kernel
theorem dX6_sumUp_88 : decode cX6_sumUp 88 = .ok (.iaload, 1) := by decide +kernel
theorem dX6_sumUp_89 : decode cX6_sumUp 89 = .ok (.aload_n 0, 1) := by decide +kernel
theorem dX6_sumUp_90 : decode cX6_sumUp 90 = .ok (.getfield 19, 3) := by decide +kernel
theorem dX6_sumUp_93 : decode cX6_sumUp 93 = .ok (.iload_n 1, 1) := by decide +kernel
theorem dX6_sumUp_94 : decode cX6_sumUp 94 = .ok (.iaload, 1) := by decide +kernel
theorem dX6_sumUp_95 : decode cX6_sumUp 95 = .ok (.iadd, 1) := by decide +kernel
theorem dX6_sumUp_96 : decode cX6_sumUp 96 = .ok (.iastore, 1) := by decide +kernel
theorem dX6_sumUp_97 : decode cX6_sumUp 97 = .ok (.iinc 1 1, 3) := by decide +kernel
theorem dX6_sumUp_100 : decode cX6_sumUp 100 = .ok (.goto (-98), 3) := by decide +kernel
theorem dX6_sumUp_103 : decode cX6_sumUp 103 = .ok (.return_, 1) := by decide +kernel
theorem dX6_cube_0 : decode cX6_cube 0 = .ok (.lload_n 0, 1) := by decide +kernel
theorem dX6_cube_1 : decode cX6_cube 1 = .ok (.lload_n 0, 1) := by decide +kernel
theorem dX6_cube_2 : decode cX6_cube 2 = .ok (.lmul, 1) := by decide +kernel
theorem dX6_cube_3 : decode cX6_cube 3 = .ok (.lload_n 0, 1) := by decide +kernel
theorem dX6_cube_4 : decode cX6_cube 4 = .ok (.lmul, 1) := by decide +kernel
theorem dX6_cube_5 : decode cX6_cube 5 = .ok (.lreturn, 1) := by decide +kernel
set_option maxRecDepth 20000 in
theorem ggX6_isLine_X6_cube : GoodIn wsX6_isLine wsX6_cube := goodIn_r _ [22] (by decide +kernel) (by decide +kernel)
set_option maxRecDepth 20000 in
theorem gX6_isLine_X6_cube : GoodIn wsX6_isLine (va_wsS RX6 91 yX6_cube wsX6_cube) := goodIn_app (goodIn_of _ (by decide +kernel)) ggX6_isLine_X6_cube
theorem dX6_isLine_0 : decode cX6_isLine 0 = .ok (.iload_n 1, 1) := by decide +kernel
theorem dX6_isLine_1 : decode cX6_isLine 1 = .ok (.iconst 1, 1) := by decide +kernel
theorem dX6_isLine_2 : decode cX6_isLine 2 = .ok (.iadd, 1) := by decide +kernel
theorem dX6_isLine_3 : decode cX6_isLine 3 = .ok (.istore 5, 2) := by decide +kernel
theorem dX6_isLine_5 : decode cX6_isLine 5 = .ok (.iload_n 1, 1) := by decide +kernel
theorem dX6_isLine_6 : decode cX6_isLine 6 = .ok (.ifCond .lt 25, 3) := by decide +kernel
theorem dX6_isLine_9 : decode cX6_isLine 9 = .ok (.iload 5, 2) := by decide +kernel
theorem dX6_isLine_11 : decode cX6_isLine 11 = .ok (.iload_n 2, 1) := by decide +kernel
theorem dX6_isLine_12 : decode cX6_isLine 12 = .ok (.if_icmp .ge 19, 3) := by decide +kernel
theorem dX6_isLine_15 : decode cX6_isLine 15 = .ok (.aload_n 0, 1) := by decide +kernel
theorem dX6_isLine_16 : decode cX6_isLine 16 = .ok (.getfield 7, 3) := by decide +kernel
theorem dX6_isLine_19 : decode cX6_isLine 19 = .ok (.iload 5, 2) := by decide +kernel
theorem dX6_isLine_21 : decode cX6_isLine 21 = .ok (.iaload, 1) := by decide +kernel
theorem dX6_isLine_22 : decode cX6_isLine 22 = .ok (.ifCond .eq 9, 3) := by decide +kernel
theorem dX6_isLine_25 : decode cX6_isLine 25 = .ok (.iinc 5 1, 3) := by decide +kernel
theorem dX6_isLine_28 : decode cX6_isLine 28 = .ok (.goto (-23), 3) := by decide +kernel
theorem dX6_isLine_31 : decode cX6_isLine 31 = .ok (.iload_n 2, 1) := by decide +kernel
theorem dX6_isLine_32 : decode cX6_isLine 32 = .ok (.aload_n 0, 1) := by decide +kernel
theorem dX6_isLine_33 : decode cX6_isLine 33 = .ok (.getfield 66, 3) := by decide +kernel
theorem dX6_isLine_36 : decode cX6_isLine 36 = .ok (.if_icmp .ge 17, 3) := by decide +kernel
theorem dX6_isLine_39 : decode cX6_isLine 39 = .ok (.aload_n 0, 1) := by decide +kernel
theorem dX6_isLine_40 : decode cX6_isLine 40 = .ok (.getfield 7, 3) := by decide +kernel
theorem dX6_isLine_43 : decode cX6_isLine 43 = .ok (.iload_n 2, 1) := by decide +kernel
theorem dX6_isLine_44 : decode cX6_isLine 44 = .ok (.iaload, 1) := by decide +kernel
theorem dX6_isLine_45 : decode cX6_isLine 45 = .ok (.iconst 2, 1) := by decide +kernel
theorem dX6_isLine_46 : decode cX6_isLine 46 = .ok (.if_icmp .ne 7, 3) := by decide +kernel
theorem dX6_isLine_49 : decode cX6_isLine 49 = .ok (.iconst 1, 1) := by decide +kernel
theorem dX6_isLine_50 : decode cX6_isLine 50 = .ok (.goto 4, 3) := by decide +kernel
theorem dX6_isLine_53 : decode cX6_isLine 53 = .ok (.iconst 0, 1) := by decide +kernel
theorem dX6_isLine_54 : decode cX6_isLine 54 = .ok (.istore 6, 2) := by decide +kernel
theorem dX6_isLine_56 : decode cX6_isLine 56 = .ok (.aload_n 0, 1) := by decide +kernel
theorem dX6_isLine_57 : decode cX6_isLine 57 = .ok (.getfield 35, 3) := by decide +kernel
theorem dX6_isLine_60 : decode cX6_isLine 60 = .ok (.iload_n 2, 1) := by decide +kernel
theorem dX6_isLine_61 : decode cX6_isLine 61 = .ok (.iaload, 1) := by decide +kernel
theorem dX6_isLine_62 : decode cX6_isLine 62 = .ok (.aload_n 0, 1) := by decide +kernel
theorem dX6_isLine_63 : decode cX6_isLine 63 = .ok (.getfield 35, 3) := by decide +kernel
theorem dX6_isLine_66 : decode cX6_isLine 66 = .ok (.iload 5, 2) := by decide +kernel
theorem dX6_isLine_68 : decode cX6_isLine 68 = .ok (.iaload, 1) := by decide +kernel
theorem dX6_isLine_69 : decode cX6_isLine 69 = .ok (.isub, 1) := by decide +kernel
theorem dX6_isLine_70 : decode cX6_isLine 70 = .ok (.iload 6, 2) := by decide +kernel
theorem dX6_isLine_72 : decode cX6_isLine 72 = .ok (.ifCond .eq 12, 3) := by decide +kernel
theorem dX6_isLine_75 : decode cX6_isLine 75 = .ok (.aload_n 0, 1) := by decide +kernel
theorem dX6_isLine_76 : decode cX6_isLine 76 = .ok (.getfield 13, 3) := by decide +kernel
theorem dX6_isLine_79 : decode cX6_isLine 79 = .ok (.iload_n 2, 1) := by decide +kernel
theorem dX6_isLine_80 : decode cX6_isLine 80 = .ok (.iaload, 1) := by decide +kernel
theorem dX6_isLine_81 : decode cX6_isLine 81 = .ok (.goto 4, 3) := by decide +kernel
theorem dX6_isLine_84 : decode cX6_isLine 84 = .ok (.iconst 0, 1) := by decide +kernel
theorem dX6_isLine_85 : decode cX6_isLine 85 = .ok (.iadd, 1) := by decide +kernel
theorem dX6_isLine_86 : decode cX6_isLine 86 = .ok (.istore 7, 2) := by decide +kernel
theorem dX6_isLine_88 : decode cX6_isLine 88 = .ok (.aload_n 0, 1) := by decide +kernel
theorem dX6_isLine_89 : decode cX6_isLine 89 = .ok (.aload_n 0, 1) := by decide +kernel
theorem dX6_isLine_90 : decode cX6_isLine 90 = .ok (.getfield 29, 3) := by decide +kernel
theorem dX6_isLine_93 : decode cX6_isLine 93 = .ok (.iload_n 3, 1) := by decide +kernel
theorem dX6_isLine_94 : decode cX6_isLine 94 = .ok (.iaload, 1) := by decide +kernel
theorem dX6_isLine_95 : decode cX6_isLine 95 = .ok (.iload 7, 2) := by decide +kernel
theorem dX6_isLine_97 : decode cX6_isLine 97 = .ok (.isub, 1) := by decide +kernel
theorem dX6_isLine_98 : decode cX6_isLine 98 = .ok (.putfield 78, 3) := by decide +kernel
theorem dX6_isLine_101 : decode cX6_isLine 101 = .ok (.aload_n 0, 1) := by decide +kernel
theorem dX6_isLine_102 : decode cX6_isLine 102 = .ok (.getfield 78, 3) := by decide +kernel
theorem dX6_isLine_105 : decode cX6_isLine 105 = .ok (.i2l, 1) := by decide +kernel
theorem dX6_isLine_106 : decode cX6_isLine 106 = .ok (.lstore 8, 2) := by decide +kernel
theorem dX6_isLine_108 : decode cX6_isLine 108 = .ok (.lload 8, 2) := by decide +kernel
theorem dX6_isLine_110 : decode cX6_isLine 110 = .ok (.lconst 0, 1) := by decide +kernel
theorem dX6_isLine_111 : decode cX6_isLine 111 = .ok (.lcmp, 1) := by decide +kernel
theorem dX6_isLine_112 : decode cX6_isLine 112 = .ok (.ifCond .ge 21, 3) := by decide +kernel
theorem dX6_isLine_115 : decode cX6_isLine 115 = .ok (.aload_n 0, 1) := by decide +kernel
theorem dX6_isLine_116 : decode cX6_isLine 116 = .ok (.getfield 41, 3) := by decide +kernel
theorem dX6_isLine_119 : decode cX6_isLine 119 = .ok (.iload_n 2, 1) := by decide +kernel
theorem dX6_isLine_120 : decode cX6_isLine 120 = .ok (.iaload, 1) := by decide +kernel
theorem dX6_isLine_121 : decode cX6_isLine 121 = .ok (.aload_n 0, 1) := by decide +kernel
theorem dX6_isLine_122 : decode cX6_isLine 122 = .ok (.getfield 41, 3) := by decide +kernel
theorem dX6_isLine_125 : decode cX6_isLine 125 = .ok (.iload 5, 2) := by decide +kernel
theorem dX6_isLine_127 : decode cX6_isLine 127 = .ok (.iaload, 1) := by decide +kernel
theorem dX6_isLine_128 : decode cX6_isLine 128 = .ok (.isub, 1) := by decide +kernel
theorem dX6_isLine_129 : decode cX6_isLine 129 = .ok (.i2l, 1) := by decide +kernel
theorem dX6_isLine_130 : decode cX6_isLine 130 = .ok (.goto 35, 3) := by decide +kernel
theorem dX6_isLine_133 : decode cX6_isLine 133 = .ok (.aload_n 0, 1) := by decide +kernel
theorem dX6_isLine_134 : decode cX6_isLine 134 = .ok (.getfield 38, 3) := by decide +kernel
theorem dX6_isLine_137 : decode cX6_isLine 137 = .ok (.iload_n 2, 1) := by decide +kernel
theorem dX6_isLine_138 : decode cX6_isLine 138 = .ok (.iaload, 1) := by decide +kernel
theorem dX6_isLine_139 : decode cX6_isLine 139 = .ok (.aload_n 0, 1) := by decide +kernel
theorem dX6_isLine_140 : decode cX6_isLine 140 = .ok (.getfield 38, 3) := by decide +kernel
theorem dX6_isLine_143 : decode cX6_isLine 143 = .ok (.iload 5, 2) := by decide +kernel
theorem dX6_isLine_145 : decode cX6_isLine 145 = .ok (.iaload, 1) := by decide +kernel
theorem dX6_isLine_146 : decode cX6_isLine 146 = .ok (.isub, 1) := by decide +kernel
theorem dX6_isLine_147 : decode cX6_isLine 147 = .ok (.iload 4, 2) := by decide +kernel
theorem dX6_isLine_149 : decode cX6_isLine 149 = .ok (.iconst 3, 1) := by decide +kernel
theorem dX6_isLine_150 : decode cX6_isLine 150 = .ok (.if_icmp .ne 12, 3) := by decide +kernel
theorem dX6_isLine_153 : decode cX6_isLine 153 = .ok (.aload_n 0, 1) := by decide +kernel
theorem dX6_isLine_154 : decode cX6_isLine 154 = .ok (.getfield 32, 3) := by decide +kernel
theorem dX6_isLine_157 : decode cX6_isLine 157 = .ok (.iconst 2, 1) := by decide +kernel
theorem dX6_isLine_158 : decode cX6_isLine 158 = .ok (.iaload, 1) := by decide +kernel
theorem dX6_isLine_159 : decode cX6_isLine 159 = .ok (.goto 4, 3) := by decide +kernel
theorem dX6_isLine_162 : decode cX6_isLine 162 = .ok (.iconst 0, 1) := by decide +kernel
theorem dX6_isLine_163 : decode cX6_isLine 163 = .ok (.iadd, 1) := by decide +kernel
theorem dX6_isLine_164 : decode cX6_isLine 164 = .ok (.i2l, 1) := by decide +kernel
theorem dX6_isLine_165 : decode cX6_isLine 165 = .ok (.lstore 10, 2) := by decide +kernel
theorem dX6_isLine_167 : decode cX6_isLine 167 = .ok (.lload 8, 2) := by decide +kernel
theorem dX6_isLine_169 : decode cX6_isLine 169 = .ok (.lneg, 1) := by decide +kernel
theorem dX6_isLine_170 : decode cX6_isLine 170 = .ok (.lload 10, 2) := by decide +kernel
theorem dX6_isLine_172 : decode cX6_isLine 172 = .ok (.lcmp, 1) := by decide +kernel
theorem dX6_isLine_173 : decode cX6_isLine 173 = .ok (.ifCond .le 5, 3) := by decide +kernel
theorem dX6_isLine_176 : decode cX6_isLine 176 = .ok (.iconst 0, 1) := by decide +kernel
theorem dX6_isLine_177 : decode cX6_isLine 177 = .ok (.ireturn, 1) := by decide +kernel
theorem dX6_isLine_178 : decode cX6_isLine 178 = .ok (.aload_n 0, 1) := by decide +kernel
theorem dX6_isLine_179 : decode cX6_isLine 179 = .ok (.iconst 0, 1) := by decide +kernel
theorem dX6_isLine_180 : decode cX6_isLine 180 = .ok (.putfield 81, 3) := by decide +kernel
theorem dX6_isLine_183 : decode cX6_isLine 183 = .ok (.aload_n 0, 1) := by decide +kernel
theorem dX6_isLine_184 : decode cX6_isLine 184 = .ok (.iconst 1, 1) := by decide +kernel
theorem dX6_isLine_185 : decode cX6_isLine 185 = .ok (.putfield 84, 3) := by decide +kernel
theorem dX6_isLine_188 : decode cX6_isLine 188 = .ok (.lload 8, 2) := by decide +kernel
theorem dX6_isLine_190 : decode cX6_isLine 190 = .ok (.lconst 0, 1) := by decide +kernel
theorem dX6_isLine_191 : decode cX6_isLine 191 = .ok (.lcmp, 1) := by decide +kernel
theorem dX6_isLine_192 : decode cX6_isLine 192 = .ok (.ifCond .le 99, 3) := by decide +kernel
theorem dX6_isLine_195 : decode cX6_isLine 195 = .ok (.iload_n 2, 1) := by decide +kernel
theorem dX6_isLine_196 : decode cX6_isLine 196 = .ok (.aload_n 0, 1) := by decide +kernel
theorem dX6_isLine_197 : decode cX6_isLine 197 = .ok (.getfield 66, 3) := by decide +kernel
theorem dX6_isLine_200 : decode cX6_isLine 200 = .ok (.if_icmp .ge 91, 3) := by decide +kernel
theorem dX6_isLine_203 : decode cX6_isLine 203 = .ok (.lload 10, 2) := by decide +kernel
theorem dX6_isLine_205 : decode cX6_isLine 205 = .ok (.lconst 0, 1) := by decide +kernel
theorem dX6_isLine_206 : decode cX6_isLine 206 = .ok (.lcmp, 1) := by decide +kernel
theorem dX6_isLine_207 : decode cX6_isLine 207 = .ok (.ifCond .ne 9, 3) := by decide +kernel
theorem dX6_isLine_210 : decode cX6_isLine 210 = .ok (.ldc2_w 87, 3) := by decide +kernel
theorem dX6_isLine_213 : decode cX6_isLine 213 = .ok (.goto 18, 3) := by decide +kernel
theorem dX6_isLine_216 : decode cX6_isLine 216 = .ok (.ldc2_w 89, 3) := by decide +kernel
theorem dX6_isLine_219 : decode cX6_isLine 219 = .ok (.lload 8, 2) := by decide +kernel
theorem dX6_isLine_221 : decode cX6_isLine 221 = .ok (.invokestatic 91, 3) := by decide +kernel
theorem dX6_isLine_224 : decode cX6_isLine 224 = .ok (.lmul, 1) := by decide +kernel
theorem dX6_isLine_225 : decode cX6_isLine 225 = .ok (.lload 10, 2) := by decide +kernel
theorem dX6_isLine_227 : decode cX6_isLine 227 = .ok (.invokestatic 91, 3) := by decide +kernel
theorem dX6_isLine_230 : decode cX6_isLine 230 = .ok (.ldiv, 1) := by decide +kernel
theorem dX6_isLine_231 : decode cX6_isLine 231 = .ok (.lstore 12, 2) := by decide +kernel
theorem dX6_isLine_233 : decode cX6_isLine 233 = .ok (.aload_n 0, 1) := by decide +kernel
theorem dX6_isLine_234 : decode cX6_isLine 234 = .ok (.lload 12, 2) := by decide +kernel
theorem dX6_isLine_236 : decode cX6_isLine 236 = .ok (.ldc2_w 87, 3) := by decide +kernel
theorem dX6_isLine_239 : decode cX6_isLine 239 = .ok (.lcmp, 1) := by decide +kernel
theorem dX6_isLine_240 : decode cX6_isLine 240 = .ok (.ifCond .le 9, 3) := by decide +kernel
theorem dX6_isLine_243 : decode cX6_isLine 243 = .ok (.sipush 10000, 3) := by decide +kernel
theorem dX6_isLine_246 : decode cX6_isLine 246 = .ok (.goto 6, 3) := by decide +kernel
theorem dX6_isLine_249 : decode cX6_isLine 249 = .ok (.lload 12, 2) := by decide +kernel
theorem dX6_isLine_251 : decode cX6_isLine 251 = .ok (.l2i, 1) := by decide +kernel
theorem dX6_isLine_252 : decode cX6_isLine 252 = .ok (.putfield 81, 3) := by decide +kernel
theorem dX6_isLine_255 : decode cX6_isLine 255 = .ok (.aload_n 0, 1) := by decide +kernel
theorem dX6_isLine_256 : decode cX6_isLine 256 = .ok (.lload 8, 2) := by decide +kernel
theorem dX6_isLine_258 : decode cX6_isLine 258 = .ok (.lload 10, 2) := by decide +kernel
theorem dX6_isLine_260 : decode cX6_isLine 260 = .ok (.lcmp, 1) := by decide +kernel
theorem dX6_isLine_261 : decode cX6_isLine 261 = .ok (.ifCond .le 7, 3) := by decide +kernel
theorem dX6_isLine_264 : decode cX6_isLine 264 = .ok (.iconst 3, 1) := by decide +kernel
theorem dX6_isLine_265 : decode cX6_isLine 265 = .ok (.goto 20, 3) := by decide +kernel
theorem dX6_isLine_268 : decode cX6_isLine 268 = .ok (.ldc2_w 95, 3) := by decide +kernel
theorem dX6_isLine_271 : decode cX6_isLine 271 = .ok (.lload 8, 2) := by decide +kernel
theorem dX6_isLine_273 : decode cX6_isLine 273 = .ok (.lmul, 1) := by decide +kernel
theorem dX6_isLine_274 : decode cX6_isLine 274 = .ok (.lload 10, 2) := by decide +kernel
theorem dX6_isLine_276 : decode cX6_isLine 276 = .ok (.lcmp, 1) := by decide +kernel
theorem dX6_isLine_277 : decode cX6_isLine 277 = .ok (.ifCond .le 7, 3) := by decide +kernel
theorem dX6_isLine_280 : decode cX6_isLine 280 = .ok (.iconst 2, 1) := by decide +kernel
theorem dX6_isLine_281 : decode cX6_isLine 281 = .ok (.goto 4, 3) := by decide +kernel
theorem dX6_isLine_284 : decode cX6_isLine 284 = .ok (.iconst 1, 1) := by decide +kernel
theorem dX6_isLine_285 : decode cX6_isLine 285 = .ok (.putfield 84, 3) := by decide +kernel
theorem dX6_isLine_288 : decode cX6_isLine 288 = .ok (.goto 52, 3) := by decide +kernel
theorem dX6_isLine_291 : decode cX6_isLine 291 = .ok (.lload 8, 2) := by decide +kernel
theorem dX6_isLine_293 : decode cX6_isLine 293 = .ok (.lconst 0, 1) := by decide +kernel
theorem dX6_isLine_294 : decode cX6_isLine 294 = .ok (.lcmp, 1) := by decide +kernel
theorem dX6_isLine_295 : decode cX6_isLine 295 = .ok (.ifCond .ge 45, 3) := by decide +kernel
theorem dX6_isLine_298 : decode cX6_isLine 298 = .ok (.aload_n 0, 1) := by decide +kernel
theorem dX6_isLine_299 : decode cX6_isLine 299 = .ok (.ldc2_w 89, 3) := by decide +kernel
theorem dX6_isLine_302 : decode cX6_isLine 302 = .ok (.lload 8, 2) := by decide +kernel
theorem dX6_isLine_304 : decode cX6_isLine 304 = .ok (.lneg, 1) := by decide +kernel
theorem dX6_isLine_305 : decode cX6_isLine 305 = .ok (.invokestatic 91, 3) := by decide +kernel
theorem dX6_isLine_308 : decode cX6_isLine 308 = .ok (.lmul, 1) := by decide +kernel
theorem dX6_isLine_309 : decode cX6_isLine 309 = .ok (.lload 10, 2) := by decide +kernel
theorem dX6_isLine_311 : decode cX6_isLine 311 = .ok (.invokestatic 91, 3) := by decide +kernel
theorem dX6_isLine_314 : decode cX6_isLine 314 = .ok (.ldiv, 1) := by decide +kernel
theorem dX6_isLine_315 : decode cX6_isLine 315 = .ok (.l2i, 1) := by decide +kernel
theorem dX6_isLine_316 : decode cX6_isLine 316 = .ok (.putfield 81, 3) := by decide +kernel
theorem dX6_isLine_319 : decode cX6_isLine 319 = .ok (.aload_n 0, 1) := by decide +kernel
theorem dX6_isLine_320 : decode cX6_isLine 320 = .ok (.ldc2_w 97, 3) := by decide +kernel
theorem dX6_isLine_323 : decode cX6_isLine 323 = .ok (.lload 8, 2) := by decide +kernel
theorem dX6_isLine_325 : decode cX6_isLine 325 = .ok (.lmul, 1) := by decide +kernel
theorem dX6_isLine_326 : decode cX6_isLine 326 = .ok (.lload 10, 2) := by decide +kernel
theorem dX6_isLine_328 : decode cX6_isLine 328 = .ok (.lcmp, 1) := by decide +kernel
theorem dX6_isLine_329 : decode cX6_isLine 329 = .ok (.ifCond .le 7, 3) := by decide +kernel
theorem dX6_isLine_332 : decode cX6_isLine 332 = .ok (.iconst 0, 1) := by decide +kernel
theorem dX6_isLine_333 : decode cX6_isLine 333 = .ok (.goto 4, 3) := by decide +kernel
theorem dX6_isLine_336 : decode cX6_isLine 336 = .ok (.iconst 1, 1) := by decide +kernel
theorem dX6_isLine_337 : decode cX6_isLine 337 = .ok (.putfield 84, 3) := by decide +kernel
theorem dX6_isLine_340 : decode cX6_isLine 340 = .ok (.aload_n 0, 1) := by decide +kernel
theorem dX6_isLine_341 : decode cX6_isLine 341 = .ok (.ldc2_w 99, 3) := by decide +kernel
theorem dX6_isLine_344 : decode cX6_isLine 344 = .ok (.aload_n 0, 1) := by decide +kernel
theorem dX6_isLine_345 : decode cX6_isLine 345 = .ok (.getfield 81, 3) := by decide +kernel
theorem dX6_isLine_348 : decode cX6_isLine 348 = .ok (.i2l, 1) := by decide +kernel
theorem dX6_isLine_349 : decode cX6_isLine 349 = .ok (.ladd, 1) := by decide +kernel
theorem dX6_isLine_350 : decode cX6_isLine 350 = .ok (.ldc2_w 99, 3) := by decide +kernel
theorem dX6_isLine_353 : decode cX6_isLine 353 = .ok (.aload_n 0, 1) := by decide +kernel
theorem dX6_isLine_354 : decode cX6_isLine 354 = .ok (.getfield 81, 3) := by decide +kernel
theorem dX6_isLine_357 : decode cX6_isLine 357 = .ok (.i2l, 1) := by decide +kernel
theorem dX6_isLine_358 : decode cX6_isLine 358 = .ok (.ladd, 1) := by decide +kernel
theorem dX6_isLine_359 : decode cX6_isLine 359 = .ok (.lmul, 1) := by decide +kernel
theorem dX6_isLine_360 : decode cX6_isLine 360 = .ok (.putfield 101, 3) := by decide +kernel
theorem dX6_isLine_363 : decode cX6_isLine 363 = .ok (.iload 6, 2) := by decide +kernel
theorem dX6_isLine_365 : decode cX6_isLine 365 = .ok (.ifCond .eq 54, 3) := by decide +kernel
theorem dX6_isLine_368 : decode cX6_isLine 368 = .ok (.aload_n 0, 1) := by decide +kernel
theorem dX6_isLine_369 : decode cX6_isLine 369 = .ok (.getfield 22, 3) := by decide +kernel
theorem dX6_isLine_372 : decode cX6_isLine 372 = .ok (.iload_n 2, 1) := by decide +kernel
theorem dX6_isLine_373 : decode cX6_isLine 373 = .ok (.iaload, 1) := by decide +kernel
theorem dX6_isLine_374 : decode cX6_isLine 374 = .ok (.sipush (-10000), 3) := by decide +kernel
theorem dX6_isLine_377 : decode cX6_isLine 377 = .ok (.if_icmp .le 42, 3) := by decide +kernel
theorem dX6_isLine_380 : decode cX6_isLine 380 = .ok (.aload_n 0, 1) := by decide +kernel
theorem dX6_isLine_381 : decode cX6_isLine 381 = .ok (.getfield 22, 3) := by decide +kernel
theorem dX6_isLine_384 : decode cX6_isLine 384 = .ok (.iload_n 2, 1) := by decide +kernel
theorem dX6_isLine_385 : decode cX6_isLine 385 = .ok (.iaload, 1) := by decide +kernel
theorem dX6_isLine_386 : decode cX6_isLine 386 = .ok (.i2l, 1) := by decide +kernel
theorem dX6_isLine_387 : decode cX6_isLine 387 = .ok (.lstore 12, 2) := by decide +kernel
theorem dX6_isLine_389 : decode cX6_isLine 389 = .ok (.aload_n 0, 1) := by decide +kernel
theorem dX6_isLine_390 : decode cX6_isLine 390 = .ok (.dup, 1) := by decide +kernel
theorem dX6_isLine_391 : decode cX6_isLine 391 = .ok (.getfield 101, 3) := by decide +kernel
theorem dX6_isLine_394 : decode cX6_isLine 394 = .ok (.lload 12, 2) := by decide +kernel
theorem dX6_isLine_396 : decode cX6_isLine 396 = .ok (.lconst 0, 1) := by decide +kernel
theorem dX6_isLine_397 : decode cX6_isLine 397 = .ok (.lcmp, 1) := by decide +kernel
theorem dX6_isLine_398 : decode cX6_isLine 398 = .ok (.ifCond .ge 12, 3) := by decide +kernel
theorem dX6_isLine_401 : decode cX6_isLine 401 = .ok (.lload 12, 2) := by decide +kernel
theorem dX6_isLine_403 : decode cX6_isLine 403 = .ok (.lneg, 1) := by decide +kernel
theorem dX6_isLine_404 : decode cX6_isLine 404 = .ok (.lload 12, 2) := by decide +kernel
theorem dX6_isLine_406 : decode cX6_isLine 406 = .ok (.lmul, 1) := by decide +kernel
theorem dX6_isLine_407 : decode cX6_isLine 407 = .ok (.goto 8, 3) := by decide +kernel
theorem dX6_isLine_410 : decode cX6_isLine 410 = .ok (.lload 12, 2) := by decide +kernel
theorem dX6_isLine_412 : decode cX6_isLine 412 = .ok (.lload 12, 2) := by decide +kernel
theorem dX6_isLine_414 : decode cX6_isLine 414 = .ok (.lmul, 1) := by decide +kernel
theorem dX6_isLine_415 : decode cX6_isLine 415 = .ok (.ladd, 1) := by decide +kernel
theorem dX6_isLine_416 : decode cX6_isLine 416 = .ok (.putfield 101, 3) := by decide +kernel
theorem dX6_isLine_419 : decode cX6_isLine 419 = .ok (.aload_n 0, 1) := by decide +kernel
theorem dX6_isLine_420 : decode cX6_isLine 420 = .ok (.getfield 81, 3) := by decide +kernel
theorem dX6_isLine_423 : decode cX6_isLine 423 = .ok (.aload_n 0, 1) := by decide +kernel
theorem dX6_isLine_424 : decode cX6_isLine 424 = .ok (.getfield 32, 3) := by decide +kernel
theorem dX6_isLine_427 : decode cX6_isLine 427 = .ok (.iload 4, 2) := by decide +kernel
theorem dX6_isLine_429 : decode cX6_isLine 429 = .ok (.iconst 1, 1) := by decide +kernel
theorem dX6_isLine_430 : decode cX6_isLine 430 = .ok (.if_icmp .ne 7, 3) := by decide +kernel
theorem dX6_isLine_433 : decode cX6_isLine 433 = .ok (.iconst 0, 1) := by decide +kernel
theorem dX6_isLine_434 : decode cX6_isLine 434 = .ok (.goto 4, 3) := by decide +kernel
theorem dX6_isLine_437 : decode cX6_isLine 437 = .ok (.iconst 1, 1) := by decide +kernel
theorem dX6_isLine_438 : decode cX6_isLine 438 = .ok (.iaload, 1) := by decide +kernel
theorem dX6_isLine_439 : decode cX6_isLine 439 = .ok (.if_icmp .gt 7, 3) := by decide +kernel
theorem dX6_isLine_442 : decode cX6_isLine 442 = .ok (.iconst 1, 1) := by decide +kernel
theorem dX6_isLine_443 : decode cX6_isLine 443 = .ok (.goto 4, 3) := by decide +kernel
theorem dX6_isLine_446 : decode cX6_isLine 446 = .ok (.iconst 0, 1) := by decide +kernel
theorem dX6_isLine_447 : decode cX6_isLine 447 = .ok (.ireturn, 1) := by decide +kernel
theorem dX6_index_0 : decode cX6_index 0 = .ok (.iload_n 0, 1) := by decide +kernel
theorem dX6_index_1 : decode cX6_index 1 = .ok (.iconst 1, 1) := by decide +kernel
theorem dX6_index_2 : decode cX6_index 2 = .ok (.iadd, 1) := by decide +kernel
theorem dX6_index_3 : decode cX6_index 3 = .ok (.bipush 51, 2) := by decide +kernel
theorem dX6_index_5 : decode cX6_index 5 = .ok (.imul, 1) := by decide +kernel
theorem dX6_index_6 : decode cX6_index 6 = .ok (.iload_n 1, 1) := by decide +kernel
theorem dX6_index_7 : decode cX6_index 7 = .ok (.iadd, 1) := by decide +kernel
theorem dX6_index_8 : decode cX6_index 8 = .ok (.iconst 4, 1) := by decide +kernel
theorem dX6_index_9 : decode cX6_index 9 = .ok (.imul, 1) := by decide +kernel
theorem dX6_index_10 : decode cX6_index 10 = .ok (.iload_n 2, 1) := by decide +kernel
theorem dX6_index_11 : decode cX6_index 11 = .ok (.iadd, 1) := by decide +kernel
theorem dX6_index_12 : decode cX6_index 12 = .ok (.ireturn, 1) := by decide +kernel
set_option maxRecDepth 20000 in
theorem ggX6_goFrom_X6_mustBreak : GoodIn wsX6_goFrom wsX6_mustBreak := goodIn_r _ [14, 1, 6, 15, 48, 49, 50, 51, 52, 53, 54, 55, 56, 57, 58, 59, 60, 61, 62, 63, 64, 65, 66, 67, 68, 69, 70, 71, 72, 73] (by decide +kernel) (by decide +kernel)
set_option maxRecDepth 20000 in
theorem gX6_goFrom_X6_mustBreak : GoodIn wsX6_goFrom (wsV RX6 116 RX6 yX6_mustBreak wsX6_mustBreak) := goodIn_app (goodIn_of _ (by decide +kernel)) ggX6_goFrom_X6_mustBreak
set_option maxRecDepth 20000 in
theorem ggX6_goFrom_X6_mayBreak : GoodIn wsX6_goFrom wsX6_mayBreak := goodIn_r _ [19, 1, 6, 15, 7, 48, 49, 50, 51, 52, 53, 54, 55, 56, 57, 58, 59, 60, 61, 62, 63, 64, 65, 66, 67, 68, 69, 70, 71, 72, 73] (by decide +kernel) (by decide +kernel)
set_option maxRecDepth 20000 in
theorem gX6_goFrom_X6_mayBreak : GoodIn wsX6_goFrom (wsV RX6 108 RX6 yX6_mayBreak wsX6_mayBreak) := goodIn_app (goodIn_of _ (by decide +kernel)) ggX6_goFrom_X6_mayBreak
set_option maxRecDepth 20000 in
theorem ggX6_goFrom_X6_isLine : GoodIn wsX6_goFrom wsX6_isLine := goodIn_r _ [23, 6, 1, 24, 25, 26, 27, 28, 29, 30, 31, 2, 32, 33, 34, 35, 36, 4, 15, 37, 38, 13, 39, 48, 49, 50, 51, 52, 53, 54, 55, 56, 57, 58, 59, 60, 61, 62, 63, 64, 65, 66, 67, 68, 69, 70, 71, 72, 73] (by decide +kernel) (by decide +kernel)
set_option maxRecDepth 20000 in
theorem gX6_goFrom_X6_isLine : GoodIn wsX6_goFrom (wsV RX6 120 RX6 yX6_isLine wsX6_isLine) := goodIn_app (goodIn_of _ (by decide +kernel)) ggX6_goFrom_X6_isLine
set_option maxRecDepth 20000 in
theorem ggX6_goFrom_X6_index : GoodIn wsX6_goFrom wsX6_index := goodIn_r _ [42] (by decide +kernel) (by decide +kernel)
set_option maxRecDepth 20000 in
theorem gX6_goFrom_X6_index : GoodIn wsX6_goFrom (va_wsS RX6 124 yX6_index wsX6_index) := goodIn_app (goodIn_of _ (by decide +kernel)) ggX6_goFrom_X6_index
set_option maxRecDepth 20000 in
theorem ggX6_goFrom_X6_keep : GoodIn wsX6_goFrom wsX6_keep := goodIn_r _ [46, 3, 5, 47, 48, 49, 50, 51, 52, 53, 54, 55, 56, 57, 58, 59, 60, 61, 62, 63, 64, 65, 66, 67, 68, 69, 70, 71, 72, 73] (by decide +kernel) (by decide +kernel)
set_option maxRecDepth 20000 in
theorem gX6_goFrom_X6_keep : GoodIn wsX6_goFrom (wsV RX6 132 RX6 yX6_keep wsX6_keep) := goodIn_app (goodIn_of _ (by decide +kernel)) ggX6_goFrom_X6_keep
theorem dX6_goFrom_0 : decode cX6_goFrom 0 = .ok (.iconst 1, 1) := by decide +kernel
theorem dX6_goFrom_1 : decode cX6_goFrom 1 = .ok (.istore 6, 2) := by decide +kernel
theorem dX6_goFrom_3 : decode cX6_goFrom 3 = .ok (.iload_n 1, 1) := by decide +kernel
theorem dX6_goFrom_4 : decode cX6_goFrom 4 = .ok (.iconst 1, 1) := by decide +kernel
theorem dX6_goFrom_5 : decode cX6_goFrom 5 = .ok (.iadd, 1) := by decide +kernel
theorem dX6_goFrom_6 : decode cX6_goFrom 6 = .ok (.istore 7, 2) := by decide +kernel
theorem dX6_goFrom_8 : decode cX6_goFrom 8 = .ok (.iload 7, 2) := by decide +kernel
theorem dX6_goFrom_10 : decode cX6_goFrom 10 = .ok (.aload_n 0, 1) := by decide +kernel
theorem dX6_goFrom_11 : decode cX6_goFrom 11 = .ok (.getfield 66, 3) := by decide +kernel
theorem dX6_goFrom_14 : decode cX6_goFrom 14 = .ok (.if_icmp .gt 351, 3) := by decide +kernel
theorem dX6_goFrom_17 : decode cX6_goFrom 17 = .ok (.iload 6, 2) := by decide +kernel
theorem dX6_goFrom_19 : decode cX6_goFrom 19 = .ok (.ifCond .eq 346, 3) := by decide +kernel
theorem dX6_goFrom_22 : decode cX6_goFrom 22 = .ok (.aload_n 0, 1) := by decide +kernel
theorem dX6_goFrom_23 : decode cX6_goFrom 23 = .ok (.iload 7, 2) := by decide +kernel
theorem dX6_goFrom_25 : decode cX6_goFrom 25 = .ok (.invokevirtual 116, 3) := by decide +kernel
theorem dX6_goFrom_28 : decode cX6_goFrom 28 = .ok (.ifCond .ne 7, 3) := by decide +kernel
theorem dX6_goFrom_31 : decode cX6_goFrom 31 = .ok (.iconst 1, 1) := by decide +kernel
theorem dX6_goFrom_32 : decode cX6_goFrom 32 = .ok (.goto 4, 3) := by decide +kernel
theorem dX6_goFrom_35 : decode cX6_goFrom 35 = .ok (.iconst 0, 1) := by decide +kernel
theorem dX6_goFrom_36 : decode cX6_goFrom 36 = .ok (.istore 6, 2) := by decide +kernel
theorem dX6_goFrom_38 : decode cX6_goFrom 38 = .ok (.iload 7, 2) := by decide +kernel
theorem dX6_goFrom_40 : decode cX6_goFrom 40 = .ok (.aload_n 0, 1) := by decide +kernel
theorem dX6_goFrom_41 : decode cX6_goFrom 41 = .ok (.getfield 66, 3) := by decide +kernel
theorem dX6_goFrom_44 : decode cX6_goFrom 44 = .ok (.if_icmp .ne 7, 3) := by decide +kernel
theorem dX6_goFrom_47 : decode cX6_goFrom 47 = .ok (.iconst 1, 1) := by decide +kernel
theorem dX6_goFrom_48 : decode cX6_goFrom 48 = .ok (.goto 4, 3) := by decide +kernel
theorem dX6_goFrom_51 : decode cX6_goFrom 51 = .ok (.iconst 0, 1) := by decide +kernel
theorem dX6_goFrom_52 : decode cX6_goFrom 52 = .ok (.istore 8, 2) := by decide +kernel
theorem dX6_goFrom_54 : decode cX6_goFrom 54 = .ok (.iload 8, 2) := by decide +kernel
theorem dX6_goFrom_56 : decode cX6_goFrom 56 = .ok (.ifCond .eq 24, 3) := by decide +kernel
theorem dX6_goFrom_59 : decode cX6_goFrom 59 = .ok (.iload 4, 2) := by decide +kernel
theorem dX6_goFrom_61 : decode cX6_goFrom 61 = .ok (.ifCond .eq 11, 3) := by decide +kernel
theorem dX6_goFrom_64 : decode cX6_goFrom 64 = .ok (.iload_n 2, 1) := by decide +kernel
theorem dX6_goFrom_65 : decode cX6_goFrom 65 = .ok (.iload 4, 2) := by decide +kernel
theorem dX6_goFrom_67 : decode cX6_goFrom 67 = .ok (.iconst 1, 1) := by decide +kernel
theorem dX6_goFrom_68 : decode cX6_goFrom 68 = .ok (.isub, 1) := by decide +kernel
theorem dX6_goFrom_69 : decode cX6_goFrom 69 = .ok (.if_icmp .ne 7, 3) := by decide +kernel
theorem dX6_goFrom_72 : decode cX6_goFrom 72 = .ok (.iconst 1, 1) := by decide +kernel
theorem dX6_goFrom_73 : decode cX6_goFrom 73 = .ok (.goto 20, 3) := by decide +kernel
theorem dX6_goFrom_76 : decode cX6_goFrom 76 = .ok (.iconst 0, 1) := by decide +kernel
theorem dX6_goFrom_77 : decode cX6_goFrom 77 = .ok (.goto 16, 3) := by decide +kernel
theorem dX6_goFrom_80 : decode cX6_goFrom 80 = .ok (.iload_n 2, 1) := by decide +kernel
theorem dX6_goFrom_81 : decode cX6_goFrom 81 = .ok (.iconst 1, 1) := by decide +kernel
theorem dX6_goFrom_82 : decode cX6_goFrom 82 = .ok (.iadd, 1) := by decide +kernel
theorem dX6_goFrom_83 : decode cX6_goFrom 83 = .ok (.iload 5, 2) := by decide +kernel
theorem dX6_goFrom_85 : decode cX6_goFrom 85 = .ok (.if_icmp .ge 7, 3) := by decide +kernel
theorem dX6_goFrom_88 : decode cX6_goFrom 88 = .ok (.iconst 1, 1) := by decide +kernel
theorem dX6_goFrom_89 : decode cX6_goFrom 89 = .ok (.goto 4, 3) := by decide +kernel
theorem dX6_goFrom_92 : decode cX6_goFrom 92 = .ok (.iconst 0, 1) := by decide +kernel
theorem dX6_goFrom_93 : decode cX6_goFrom 93 = .ok (.istore 9, 2) := by decide +kernel
theorem dX6_goFrom_95 : decode cX6_goFrom 95 = .ok (.iload 9, 2) := by decide +kernel
theorem dX6_goFrom_97 : decode cX6_goFrom 97 = .ok (.ifCond .eq 262, 3) := by decide +kernel
theorem dX6_goFrom_100 : decode cX6_goFrom 100 = .ok (.aload_n 0, 1) := by decide +kernel
theorem dX6_goFrom_101 : decode cX6_goFrom 101 = .ok (.iload 7, 2) := by decide +kernel
theorem dX6_goFrom_103 : decode cX6_goFrom 103 = .ok (.iload_n 3, 1) := by decide +kernel
theorem dX6_goFrom_104 : decode cX6_goFrom 104 = .ok (.invokevirtual 108, 3) := by decide +kernel
theorem dX6_goFrom_107 : decode cX6_goFrom 107 = .ok (.ifCond .eq 252, 3) := by decide +kernel
theorem dX6_goFrom_110 : decode cX6_goFrom 110 = .ok (.aload_n 0, 1) := by decide +kernel
theorem dX6_goFrom_111 : decode cX6_goFrom 111 = .ok (.iload_n 1, 1) := by decide +kernel
theorem dX6_goFrom_112 : decode cX6_goFrom 112 = .ok (.iload 7, 2) := by decide +kernel
theorem dX6_goFrom_114 : decode cX6_goFrom 114 = .ok (.iload_n 2, 1) := by decide +kernel
theorem dX6_goFrom_115 : decode cX6_goFrom 115 = .ok (.iload_n 3, 1) := by decide +kernel
theorem dX6_goFrom_116 : decode cX6_goFrom 116 = .ok (.invokevirtual 120, 3) := by decide +kernel
theorem dX6_goFrom_119 : decode cX6_goFrom 119 = .ok (.ifCond .ne 6, 3) := by decide +kernel
theorem dX6_goFrom_122 : decode cX6_goFrom 122 = .ok (.goto 237, 3) := by decide +kernel
theorem dX6_goFrom_125 : decode cX6_goFrom 125 = .ok (.iload 8, 2) := by decide +kernel
theorem dX6_goFrom_127 : decode cX6_goFrom 127 = .ok (.ifCond .eq 7, 3) := by decide +kernel
theorem dX6_goFrom_130 : decode cX6_goFrom 130 = .ok (.iconst 0, 1) := by decide +kernel
theorem dX6_goFrom_131 : decode cX6_goFrom 131 = .ok (.goto 15, 3) := by decide +kernel
theorem dX6_goFrom_134 : decode cX6_goFrom 134 = .ok (.iload 7, 2) := by decide +kernel
theorem dX6_goFrom_136 : decode cX6_goFrom 136 = .ok (.iload_n 2, 1) := by decide +kernel
theorem dX6_goFrom_137 : decode cX6_goFrom 137 = .ok (.iconst 1, 1) := by decide +kernel
theorem dX6_goFrom_138 : decode cX6_goFrom 138 = .ok (.iadd, 1) := by decide +kernel
theorem dX6_goFrom_139 : decode cX6_goFrom 139 = .ok (.aload_n 0, 1) := by decide +kernel
theorem dX6_goFrom_140 : decode cX6_goFrom 140 = .ok (.getfield 84, 3) := by decide +kernel
theorem dX6_goFrom_143 : decode cX6_goFrom 143 = .ok (.invokestatic 124, 3) := by decide +kernel
theorem dX6_goFrom_146 : decode cX6_goFrom 146 = .ok (.istore 10, 2) := by decide +kernel
theorem dX6_goFrom_148 : decode cX6_goFrom 148 = .ok (.iload 8, 2) := by decide +kernel
theorem dX6_goFrom_150 : decode cX6_goFrom 150 = .ok (.ifCond .ne 16, 3) := by decide +kernel
theorem dX6_goFrom_153 : decode cX6_goFrom 153 = .ok (.aload_n 0, 1) := by decide +kernel
theorem dX6_goFrom_154 : decode cX6_goFrom 154 = .ok (.getfield 48, 3) := by decide +kernel
theorem dX6_goFrom_157 : decode cX6_goFrom 157 = .ok (.iload 10, 2) := by decide +kernel
theorem dX6_goFrom_159 : decode cX6_goFrom 159 = .ok (.iaload, 1) := by decide +kernel
theorem dX6_goFrom_160 : decode cX6_goFrom 160 = .ok (.ifCond .ne 6, 3) := by decide +kernel
theorem dX6_goFrom_163 : decode cX6_goFrom 163 = .ok (.goto 196, 3) := by decide +kernel
theorem dX6_goFrom_166 : decode cX6_goFrom 166 = .ok (.aload_n 0, 1) := by decide +kernel
theorem dX6_goFrom_167 : decode cX6_goFrom 167 = .ok (.getfield 101, 3) := by decide +kernel
theorem dX6_goFrom_170 : decode cX6_goFrom 170 = .ok (.iload 8, 2) := by decide +kernel
theorem dX6_goFrom_172 : decode cX6_goFrom 172 = .ok (.ifCond .eq 7, 3) := by decide +kernel
theorem dX6_goFrom_175 : decode cX6_goFrom 175 = .ok (.lconst 0, 1) := by decide +kernel
theorem dX6_goFrom_176 : decode cX6_goFrom 176 = .ok (.goto 10, 3) := by decide +kernel
theorem dX6_goFrom_179 : decode cX6_goFrom 179 = .ok (.aload_n 0, 1) := by decide +kernel
theorem dX6_goFrom_180 : decode cX6_goFrom 180 = .ok (.getfield 44, 3) := by decide +kernel
theorem dX6_goFrom_183 : decode cX6_goFrom 183 = .ok (.iload 10, 2) := by decide +kernel
theorem dX6_goFrom_185 : decode cX6_goFrom 185 = .ok (.laload, 1) := by decide +kernel
theorem dX6_goFrom_186 : decode cX6_goFrom 186 = .ok (.ladd, 1) := by decide +kernel
theorem dX6_goFrom_187 : decode cX6_goFrom 187 = .ok (.lstore 11, 2) := by decide +kernel
theorem dX6_goFrom_189 : decode cX6_goFrom 189 = .ok (.iconst 1, 1) := by decide +kernel
theorem dX6_goFrom_190 : decode cX6_goFrom 190 = .ok (.iload 8, 2) := by decide +kernel
theorem dX6_goFrom_192 : decode cX6_goFrom 192 = .ok (.ifCond .eq 7, 3) := by decide +kernel
theorem dX6_goFrom_195 : decode cX6_goFrom 195 = .ok (.iconst 0, 1) := by decide +kernel
theorem dX6_goFrom_196 : decode cX6_goFrom 196 = .ok (.goto 10, 3) := by decide +kernel
theorem dX6_goFrom_199 : decode cX6_goFrom 199 = .ok (.aload_n 0, 1) := by decide +kernel
theorem dX6_goFrom_200 : decode cX6_goFrom 200 = .ok (.getfield 48, 3) := by decide +kernel
theorem dX6_goFrom_203 : decode cX6_goFrom 203 = .ok (.iload 10, 2) := by decide +kernel
theorem dX6_goFrom_205 : decode cX6_goFrom 205 = .ok (.iaload, 1) := by decide +kernel
theorem dX6_goFrom_206 : decode cX6_goFrom 206 = .ok (.iadd, 1) := by decide +kernel
theorem dX6_goFrom_207 : decode cX6_goFrom 207 = .ok (.istore 13, 2) := by decide +kernel
theorem dX6_goFrom_209 : decode cX6_goFrom 209 = .ok (.iload_n 1, 1) := by decide +kernel
theorem dX6_goFrom_210 : decode cX6_goFrom 210 = .ok (.ifCond .lt 52, 3) := by decide +kernel
theorem dX6_goFrom_213 : decode cX6_goFrom 213 = .ok (.iload 8, 2) := by decide +kernel
theorem dX6_goFrom_215 : decode cX6_goFrom 215 = .ok (.ifCond .ne 47, 3) := by decide +kernel
theorem dX6_goFrom_218 : decode cX6_goFrom 218 = .ok (.aload_n 0, 1) := by decide +kernel
theorem dX6_goFrom_219 : decode cX6_goFrom 219 = .ok (.getfield 7, 3) := by decide +kernel
theorem dX6_goFrom_222 : decode cX6_goFrom 222 = .ok (.iload_n 1, 1) := by decide +kernel
theorem dX6_goFrom_223 : decode cX6_goFrom 223 = .ok (.iaload, 1) := by decide +kernel
theorem dX6_goFrom_224 : decode cX6_goFrom 224 = .ok (.iconst 2, 1) := by decide +kernel
theorem dX6_goFrom_225 : decode cX6_goFrom 225 = .ok (.if_icmp .ne 37, 3) := by decide +kernel
theorem dX6_goFrom_228 : decode cX6_goFrom 228 = .ok (.aload_n 0, 1) := by decide +kernel
theorem dX6_goFrom_229 : decode cX6_goFrom 229 = .ok (.getfield 7, 3) := by decide +kernel
theorem dX6_goFrom_232 : decode cX6_goFrom 232 = .ok (.iload 7, 2) := by decide +kernel
theorem dX6_goFrom_234 : decode cX6_goFrom 234 = .ok (.iaload, 1) := by decide +kernel
theorem dX6_goFrom_235 : decode cX6_goFrom 235 = .ok (.iconst 2, 1) := by decide +kernel
theorem dX6_goFrom_236 : decode cX6_goFrom 236 = .ok (.if_icmp .ne 26, 3) := by decide +kernel
theorem dX6_goFrom_239 : decode cX6_goFrom 239 = .ok (.aload_n 0, 1) := by decide +kernel
theorem dX6_goFrom_240 : decode cX6_goFrom 240 = .ok (.getfield 25, 3) := by decide +kernel
theorem dX6_goFrom_243 : decode cX6_goFrom 243 = .ok (.iload_n 1, 1) := by decide +kernel
theorem dX6_goFrom_244 : decode cX6_goFrom 244 = .ok (.baload, 1) := by decide +kernel
theorem dX6_goFrom_245 : decode cX6_goFrom 245 = .ok (.ifCond .eq 17, 3) := by decide +kernel
theorem dX6_goFrom_248 : decode cX6_goFrom 248 = .ok (.aload_n 0, 1) := by decide +kernel
theorem dX6_goFrom_249 : decode cX6_goFrom 249 = .ok (.getfield 25, 3) := by decide +kernel
theorem dX6_goFrom_252 : decode cX6_goFrom 252 = .ok (.iload 7, 2) := by decide +kernel
theorem dX6_goFrom_254 : decode cX6_goFrom 254 = .ok (.baload, 1) := by decide +kernel
theorem dX6_goFrom_255 : decode cX6_goFrom 255 = .ok (.ifCond .eq 7, 3) := by decide +kernel
theorem dX6_goFrom_258 : decode cX6_goFrom 258 = .ok (.iconst 1, 1) := by decide +kernel
theorem dX6_goFrom_259 : decode cX6_goFrom 259 = .ok (.goto 4, 3) := by decide +kernel
theorem dX6_goFrom_262 : decode cX6_goFrom 262 = .ok (.iconst 0, 1) := by decide +kernel
theorem dX6_goFrom_263 : decode cX6_goFrom 263 = .ok (.istore 14, 2) := by decide +kernel
theorem dX6_goFrom_265 : decode cX6_goFrom 265 = .ok (.lload 11, 2) := by decide +kernel
theorem dX6_goFrom_267 : decode cX6_goFrom 267 = .ok (.iload 14, 2) := by decide +kernel
theorem dX6_goFrom_269 : decode cX6_goFrom 269 = .ok (.ifCond .eq 9, 3) := by decide +kernel
theorem dX6_goFrom_272 : decode cX6_goFrom 272 = .ok (.ldc2_w 128, 3) := by decide +kernel
theorem dX6_goFrom_275 : decode cX6_goFrom 275 = .ok (.goto 4, 3) := by decide +kernel
theorem dX6_goFrom_278 : decode cX6_goFrom 278 = .ok (.lconst 0, 1) := by decide +kernel
theorem dX6_goFrom_279 : decode cX6_goFrom 279 = .ok (.ladd, 1) := by decide +kernel
theorem dX6_goFrom_280 : decode cX6_goFrom 280 = .ok (.lstore 11, 2) := by decide +kernel
theorem dX6_goFrom_282 : decode cX6_goFrom 282 = .ok (.iconst 0, 1) := by decide +kernel
theorem dX6_goFrom_283 : decode cX6_goFrom 283 = .ok (.istore 15, 2) := by decide +kernel
theorem dX6_goFrom_285 : decode cX6_goFrom 285 = .ok (.iload 15, 2) := by decide +kernel
theorem dX6_goFrom_287 : decode cX6_goFrom 287 = .ok (.iconst 4, 1) := by decide +kernel
theorem dX6_goFrom_288 : decode cX6_goFrom 288 = .ok (.if_icmp .ge 71, 3) := by decide +kernel
theorem dX6_goFrom_291 : decode cX6_goFrom 291 = .ok (.aload_n 0, 1) := by decide +kernel
theorem dX6_goFrom_292 : decode cX6_goFrom 292 = .ok (.getfield 84, 3) := by decide +kernel
theorem dX6_goFrom_295 : decode cX6_goFrom 295 = .ok (.iload 15, 2) := by decide +kernel
theorem dX6_goFrom_297 : decode cX6_goFrom 297 = .ok (.isub, 1) := by decide +kernel
theorem dX6_goFrom_298 : decode cX6_goFrom 298 = .ok (.istore 16, 2) := by decide +kernel
theorem dX6_goFrom_300 : decode cX6_goFrom 300 = .ok (.iload_n 1, 1) := by decide +kernel
theorem dX6_goFrom_301 : decode cX6_goFrom 301 = .ok (.ifCond .lt 19, 3) := by decide +kernel
theorem dX6_goFrom_304 : decode cX6_goFrom 304 = .ok (.iload 16, 2) := by decide +kernel
theorem dX6_goFrom_306 : decode cX6_goFrom 306 = .ok (.iconst 1, 1) := by decide +kernel
theorem dX6_goFrom_307 : decode cX6_goFrom 307 = .ok (.if_icmp .gt 9, 3) := by decide +kernel
theorem dX6_goFrom_310 : decode cX6_goFrom 310 = .ok (.iload 16, 2) := by decide +kernel
theorem dX6_goFrom_312 : decode cX6_goFrom 312 = .ok (.iconst (-1), 1) := by decide +kernel
theorem dX6_goFrom_313 : decode cX6_goFrom 313 = .ok (.if_icmp .ge 7, 3) := by decide +kernel
theorem dX6_goFrom_316 : decode cX6_goFrom 316 = .ok (.iconst 1, 1) := by decide +kernel
theorem dX6_goFrom_317 : decode cX6_goFrom 317 = .ok (.goto 4, 3) := by decide +kernel
theorem dX6_goFrom_320 : decode cX6_goFrom 320 = .ok (.iconst 0, 1) := by decide +kernel
theorem dX6_goFrom_321 : decode cX6_goFrom 321 = .ok (.istore 17, 2) := by decide +kernel
theorem dX6_goFrom_323 : decode cX6_goFrom 323 = .ok (.aload_n 0, 1) := by decide +kernel
theorem dX6_goFrom_324 : decode cX6_goFrom 324 = .ok (.iload_n 1, 1) := by decide +kernel
theorem dX6_goFrom_325 : decode cX6_goFrom 325 = .ok (.iload_n 2, 1) := by decide +kernel
theorem dX6_goFrom_326 : decode cX6_goFrom 326 = .ok (.iload 15, 2) := by decide +kernel
theorem dX6_goFrom_328 : decode cX6_goFrom 328 = .ok (.invokestatic 124, 3) := by decide +kernel
theorem dX6_goFrom_331 : decode cX6_goFrom 331 = .ok (.lload 11, 2) := by decide +kernel
theorem dX6_goFrom_333 : decode cX6_goFrom 333 = .ok (.iload 17, 2) := by decide +kernel
theorem dX6_goFrom_335 : decode cX6_goFrom 335 = .ok (.ifCond .eq 9, 3) := by decide +kernel
theorem dX6_goFrom_338 : decode cX6_goFrom 338 = .ok (.ldc2_w 130, 3) := by decide +kernel
theorem dX6_goFrom_341 : decode cX6_goFrom 341 = .ok (.goto 4, 3) := by decide +kernel
theorem dX6_goFrom_344 : decode cX6_goFrom 344 = .ok (.lconst 0, 1) := by decide +kernel
theorem dX6_goFrom_345 : decode cX6_goFrom 345 = .ok (.ladd, 1) := by decide +kernel
theorem dX6_goFrom_346 : decode cX6_goFrom 346 = .ok (.iload 13, 2) := by decide +kernel
theorem dX6_goFrom_348 : decode cX6_goFrom 348 = .ok (.iload 7, 2) := by decide +kernel
theorem dX6_goFrom_350 : decode cX6_goFrom 350 = .ok (.invokevirtual 132, 3) := by decide +kernel
theorem dX6_goFrom_353 : decode cX6_goFrom 353 = .ok (.iinc 15 1, 3) := by decide +kernel
theorem dX6_goFrom_356 : decode cX6_goFrom 356 = .ok (.goto (-71), 3) := by decide +kernel
theorem dX6_goFrom_359 : decode cX6_goFrom 359 = .ok (.iinc 7 1, 3) := by decide +kernel
theorem dX6_goFrom_362 : decode cX6_goFrom 362 = .ok (.goto (-354), 3) := by decide +kernel
theorem dX6_goFrom_365 : decode cX6_goFrom 365 = .ok (.return_, 1) := by decide +kernel
theorem dX6_keep_0 : decode cX6_keep 0 = .ok (.aload_n 0, 1) := by decide +kernel
theorem dX6_keep_1 : decode cX6_keep 1 = .ok (.getfield 48, 3) := by decide +kernel
theorem dX6_keep_4 : decode cX6_keep 4 = .ok (.iload_n 1, 1) := by decide +kernel
theorem dX6_keep_5 : decode cX6_keep 5 = .ok (.iaload, 1) := by decide +kernel
theorem dX6_keep_6 : decode cX6_keep 6 = .ok (.ifCond .eq 36, 3) := by decide +kernel
theorem dX6_keep_9 : decode cX6_keep 9 = .ok (.lload_n 2, 1) := by decide +kernel
theorem dX6_keep_10 : decode cX6_keep 10 = .ok (.aload_n 0, 1) := by decide +kernel
theorem dX6_keep_11 : decode cX6_keep 11 = .ok (.getfield 44, 3) := by decide +kernel
theorem dX6_keep_14 : decode cX6_keep 14 = .ok (.iload_n 1, 1) := by decide +kernel
theorem dX6_keep_15 : decode cX6_keep 15 = .ok (.laload, 1) := by decide +kernel
theorem dX6_keep_16 : decode cX6_keep 16 = .ok (.lcmp, 1) := by decide +kernel
theorem dX6_keep_17 : decode cX6_keep 17 = .ok (.ifCond .lt 25, 3) := by decide +kernel
theorem dX6_keep_20 : decode cX6_keep 20 = .ok (.lload_n 2, 1) := by decide +kernel
theorem dX6_keep_21 : decode cX6_keep 21 = .ok (.aload_n 0, 1) := by decide +kernel
theorem dX6_keep_22 : decode cX6_keep 22 = .ok (.getfield 44, 3) := by decide +kernel
theorem dX6_keep_25 : decode cX6_keep 25 = .ok (.iload_n 1, 1) := by decide +kernel
theorem dX6_keep_26 : decode cX6_keep 26 = .ok (.laload, 1) := by decide +kernel
theorem dX6_keep_27 : decode cX6_keep 27 = .ok (.lcmp, 1) := by decide +kernel
theorem dX6_keep_28 : decode cX6_keep 28 = .ok (.ifCond .ne 18, 3) := by decide +kernel
theorem dX6_keep_31 : decode cX6_keep 31 = .ok (.iload 4, 2) := by decide +kernel
theorem dX6_keep_33 : decode cX6_keep 33 = .ok (.aload_n 0, 1) := by decide +kernel
theorem dX6_keep_34 : decode cX6_keep 34 = .ok (.getfield 48, 3) := by decide +kernel
theorem dX6_keep_37 : decode cX6_keep 37 = .ok (.iload_n 1, 1) := by decide +kernel
theorem dX6_keep_38 : decode cX6_keep 38 = .ok (.iaload, 1) := by decide +kernel
theorem dX6_keep_39 : decode cX6_keep 39 = .ok (.if_icmp .ge 7, 3) := by decide +kernel
theorem dX6_keep_42 : decode cX6_keep 42 = .ok (.iconst 1, 1) := by decide +kernel
theorem dX6_keep_43 : decode cX6_keep 43 = .ok (.goto 4, 3) := by decide +kernel
theorem dX6_keep_46 : decode cX6_keep 46 = .ok (.iconst 0, 1) := by decide +kernel
theorem dX6_keep_47 : decode cX6_keep 47 = .ok (.istore 6, 2) := by decide +kernel
theorem dX6_keep_49 : decode cX6_keep 49 = .ok (.iload 6, 2) := by decide +kernel
theorem dX6_keep_51 : decode cX6_keep 51 = .ok (.ifCond .eq 26, 3) := by decide +kernel
theorem dX6_keep_54 : decode cX6_keep 54 = .ok (.aload_n 0, 1) := by decide +kernel
theorem dX6_keep_55 : decode cX6_keep 55 = .ok (.getfield 44, 3) := by decide +kernel
theorem dX6_keep_58 : decode cX6_keep 58 = .ok (.iload_n 1, 1) := by decide +kernel
theorem dX6_keep_59 : decode cX6_keep 59 = .ok (.lload_n 2, 1) := by decide +kernel
theorem dX6_keep_60 : decode cX6_keep 60 = .ok (.lastore, 1) := by decide +kernel
theorem dX6_keep_61 : decode cX6_keep 61 = .ok (.aload_n 0, 1) := by decide +kernel
theorem dX6_keep_62 : decode cX6_keep 62 = .ok (.getfield 48, 3) := by decide +kernel
theorem dX6_keep_65 : decode cX6_keep 65 = .ok (.iload_n 1, 1) := by decide +kernel
theorem dX6_keep_66 : decode cX6_keep 66 = .ok (.iload 4, 2) := by decide +kernel
theorem dX6_keep_68 : decode cX6_keep 68 = .ok (.iastore, 1) := by decide +kernel
theorem dX6_keep_69 : decode cX6_keep 69 = .ok (.aload_n 0, 1) := by decide +kernel
theorem dX6_keep_70 : decode cX6_keep 70 = .ok (.getfield 51, 3) := by decide +kernel
theorem dX6_keep_73 : decode cX6_keep 73 = .ok (.iload_n 1, 1) := by decide +kernel
theorem dX6_keep_74 : decode cX6_keep 74 = .ok (.iload 5, 2) := by decide +kernel
theorem dX6_keep_76 : decode cX6_keep 76 = .ok (.iastore, 1) := by decide +kernel
theorem dX6_keep_77 : decode cX6_keep 77 = .ok (.return_, 1) := by decide +kernel
