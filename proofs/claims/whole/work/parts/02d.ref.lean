set_option maxRecDepth 20000 in
theorem ggX6_search_X6_sumUp : GoodIn wsX6_search wsX6_sumUp := goodIn_r _ [7, 2, 8, 9, 10, 11, 12, 13, 14, 58, 59, 60, 61, 62, 63, 64, 65, 66, 67, 68, 69, 70, 71, 72, 73, 74, 75, 76, 77, 78, 79, 80, 81, 82, 83] (by decide +kernel) (by decide +kernel)
set_option maxRecDepth 20000 in
theorem gX6_search_X6_sumUp : GoodIn wsX6_search (wsV RX6 105 RX6 yX6_sumUp wsX6_sumUp) := goodIn_app (goodIn_of _ (by decide +kernel)) ggX6_search_X6_sumUp
set_option maxRecDepth 20000 in
theorem ggX6_search_X6_mayBreak : GoodIn wsX6_search wsX6_mayBreak := goodIn_r _ [18, 2, 8, 19, 20, 58, 59, 60, 61, 62, 63, 64, 65, 66, 67, 68, 69, 70, 71, 72, 73, 74, 75, 76, 77, 78, 79, 80, 81, 82, 83] (by decide +kernel) (by decide +kernel)
set_option maxRecDepth 20000 in
theorem gX6_search_X6_mayBreak : GoodIn wsX6_search (wsV RX6 108 RX6 yX6_mayBreak wsX6_mayBreak) := goodIn_app (goodIn_of _ (by decide +kernel)) ggX6_search_X6_mayBreak
set_option maxRecDepth 20000 in
theorem ggX6_search_X6_goFrom : GoodIn wsX6_search wsX6_goFrom := goodIn_r _ [24, 2, 25, 1, 26, 27, 8, 20, 28, 29, 30, 31, 32, 6, 33, 19, 15, 16, 17, 18, 34, 35, 36, 37, 9, 10, 38, 39, 13, 11, 40, 41, 42, 43, 44, 45, 46, 47, 48, 49, 50, 51, 52, 53, 54, 55, 56, 57, 58, 59, 60, 61, 62, 63, 64, 65, 66, 67, 68, 69, 70, 71, 72, 73, 74, 75, 76, 77, 78, 79, 80, 81, 82, 83] (by decide +kernel) (by decide +kernel)
set_option maxRecDepth 20000 in
theorem gX6_search_X6_goFrom : GoodIn wsX6_search (wsV RX6 112 RX6 yX6_goFrom wsX6_goFrom) := goodIn_app (goodIn_of _ (by decide +kernel)) ggX6_search_X6_goFrom
theorem dX6_search_0 : decode cX6_search 0 = .ok (.aload_n 0, 1) := by decide +kernel
theorem dX6_search_1 : decode cX6_search 1 = .ok (.invokevirtual 105, 3) := by decide +kernel
theorem dX6_search_4 : decode cX6_search 4 = .ok (.iconst 0, 1) := by decide +kernel
theorem dX6_search_5 : decode cX6_search 5 = .ok (.istore_n 3, 1) := by decide +kernel
theorem dX6_search_6 : decode cX6_search 6 = .ok (.iload_n 3, 1) := by decide +kernel
theorem dX6_search_7 : decode cX6_search 7 = .ok (.sipush 20604, 3) := by decide +kernel
theorem dX6_search_10 : decode cX6_search 10 = .ok (.if_icmp .ge 16, 3) := by decide +kernel
theorem dX6_search_13 : decode cX6_search 13 = .ok (.aload_n 0, 1) := by decide +kernel
theorem dX6_search_14 : decode cX6_search 14 = .ok (.getfield 48, 3) := by decide +kernel
theorem dX6_search_17 : decode cX6_search 17 = .ok (.iload_n 3, 1) := by decide +kernel
theorem dX6_search_18 : decode cX6_search 18 = .ok (.iconst 0, 1) := by decide +kernel
theorem dX6_search_19 : decode cX6_search 19 = .ok (.iastore, 1) := by decide +kernel
theorem dX6_search_20 : decode cX6_search 20 = .ok (.iinc 3 1, 3) := by decide +kernel
theorem dX6_search_23 : decode cX6_search 23 = .ok (.goto (-17), 3) := by decide +kernel
theorem dX6_search_26 : decode cX6_search 26 = .ok (.iload_n 2, 1) := by decide +kernel
theorem dX6_search_27 : decode cX6_search 27 = .ok (.ifCond .le 7, 3) := by decide +kernel
theorem dX6_search_30 : decode cX6_search 30 = .ok (.iload_n 2, 1) := by decide +kernel
theorem dX6_search_31 : decode cX6_search 31 = .ok (.goto 5, 3) := by decide +kernel
theorem dX6_search_34 : decode cX6_search 34 = .ok (.bipush 50, 2) := by decide +kernel
theorem dX6_search_36 : decode cX6_search 36 = .ok (.istore_n 3, 1) := by decide +kernel
theorem dX6_search_37 : decode cX6_search 37 = .ok (.iload_n 3, 1) := by decide +kernel
theorem dX6_search_38 : decode cX6_search 38 = .ok (.iconst 1, 1) := by decide +kernel
theorem dX6_search_39 : decode cX6_search 39 = .ok (.isub, 1) := by decide +kernel
theorem dX6_search_40 : decode cX6_search 40 = .ok (.istore 4, 2) := by decide +kernel
theorem dX6_search_42 : decode cX6_search 42 = .ok (.iload 4, 2) := by decide +kernel
theorem dX6_search_44 : decode cX6_search 44 = .ok (.ifCond .lt 71, 3) := by decide +kernel
theorem dX6_search_47 : decode cX6_search 47 = .ok (.iload 4, 2) := by decide +kernel
theorem dX6_search_49 : decode cX6_search 49 = .ok (.ifCond .ne 7, 3) := by decide +kernel
theorem dX6_search_52 : decode cX6_search 52 = .ok (.iconst (-1), 1) := by decide +kernel
theorem dX6_search_53 : decode cX6_search 53 = .ok (.goto 4, 3) := by decide +kernel
theorem dX6_search_56 : decode cX6_search 56 = .ok (.iconst 0, 1) := by decide +kernel
theorem dX6_search_57 : decode cX6_search 57 = .ok (.istore 5, 2) := by decide +kernel
theorem dX6_search_59 : decode cX6_search 59 = .ok (.iload 5, 2) := by decide +kernel
theorem dX6_search_61 : decode cX6_search 61 = .ok (.iload 4, 2) := by decide +kernel
theorem dX6_search_63 : decode cX6_search 63 = .ok (.ifCond .ne 7, 3) := by decide +kernel
theorem dX6_search_66 : decode cX6_search 66 = .ok (.iconst 0, 1) := by decide +kernel
theorem dX6_search_67 : decode cX6_search 67 = .ok (.goto 7, 3) := by decide +kernel
theorem dX6_search_70 : decode cX6_search 70 = .ok (.aload_n 0, 1) := by decide +kernel
theorem dX6_search_71 : decode cX6_search 71 = .ok (.getfield 66, 3) := by decide +kernel
theorem dX6_search_74 : decode cX6_search 74 = .ok (.if_icmp .ge 35, 3) := by decide +kernel
theorem dX6_search_77 : decode cX6_search 77 = .ok (.iload 5, 2) := by decide +kernel
theorem dX6_search_79 : decode cX6_search 79 = .ok (.ifCond .lt 13, 3) := by decide +kernel
theorem dX6_search_82 : decode cX6_search 82 = .ok (.aload_n 0, 1) := by decide +kernel
theorem dX6_search_83 : decode cX6_search 83 = .ok (.iload 5, 2) := by decide +kernel
theorem dX6_search_85 : decode cX6_search 85 = .ok (.iload_n 1, 1) := by decide +kernel
theorem dX6_search_86 : decode cX6_search 86 = .ok (.invokevirtual 108, 3) := by decide +kernel
theorem dX6_search_89 : decode cX6_search 89 = .ok (.ifCond .eq 14, 3) := by decide +kernel
theorem dX6_search_92 : decode cX6_search 92 = .ok (.aload_n 0, 1) := by decide +kernel
theorem dX6_search_93 : decode cX6_search 93 = .ok (.iload 5, 2) := by decide +kernel
theorem dX6_search_95 : decode cX6_search 95 = .ok (.iload 4, 2) := by decide +kernel
theorem dX6_search_97 : decode cX6_search 97 = .ok (.iload_n 1, 1) := by decide +kernel
theorem dX6_search_98 : decode cX6_search 98 = .ok (.iload_n 2, 1) := by decide +kernel
theorem dX6_search_99 : decode cX6_search 99 = .ok (.iload_n 3, 1) := by decide +kernel
theorem dX6_search_100 : decode cX6_search 100 = .ok (.invokevirtual 112, 3) := by decide +kernel
theorem dX6_search_103 : decode cX6_search 103 = .ok (.iinc 5 1, 3) := by decide +kernel
theorem dX6_search_106 : decode cX6_search 106 = .ok (.goto (-47), 3) := by decide +kernel
theorem dX6_search_109 : decode cX6_search 109 = .ok (.iinc 4 (-1), 3) := by decide +kernel
theorem dX6_search_112 : decode cX6_search 112 = .ok (.goto (-70), 3) := by decide +kernel
theorem dX6_search_115 : decode cX6_search 115 = .ok (.return_, 1) := by decide +kernel
set_option maxRecDepth 20000 in
theorem ggX6_tell_X6_index : GoodIn wsX6_tell wsX6_index := goodIn_r _ [18] (by decide +kernel) (by decide +kernel)
set_option maxRecDepth 20000 in
theorem gX6_tell_X6_index : GoodIn wsX6_tell (va_wsS RX6 124 yX6_index wsX6_index) := goodIn_app (goodIn_of _ (by decide +kernel)) ggX6_tell_X6_index
set_option maxRecDepth 20000 in
theorem ggX6_tell_X6_isLine : GoodIn wsX6_tell wsX6_isLine := goodIn_r _ [22, 23, 14, 24, 25, 26, 9, 27, 28, 29, 11, 13, 30, 31, 32, 33, 34, 35, 36, 37, 38, 17, 39, 40, 41, 42, 43, 44, 45, 46, 47, 48, 49, 50, 51, 52, 53, 54, 55, 56, 57, 58, 59, 60, 61, 62, 63, 64, 65] (by decide +kernel) (by decide +kernel)
set_option maxRecDepth 20000 in
theorem gX6_tell_X6_isLine : GoodIn wsX6_tell (wsV RX6 120 RX6 yX6_isLine wsX6_isLine) := goodIn_app (goodIn_of _ (by decide +kernel)) ggX6_tell_X6_isLine
theorem dX6_tell_0 : decode cX6_tell 0 = .ok (.iconst (-1), 1) := by decide +kernel
theorem dX6_tell_1 : decode cX6_tell 1 = .ok (.iconst 0, 1) := by decide +kernel
theorem dX6_tell_2 : decode cX6_tell 2 = .ok (.iconst 0, 1) := by decide +kernel
theorem dX6_tell_3 : decode cX6_tell 3 = .ok (.invokestatic 124, 3) := by decide +kernel
theorem dX6_tell_6 : decode cX6_tell 6 = .ok (.istore_n 2, 1) := by decide +kernel
theorem dX6_tell_7 : decode cX6_tell 7 = .ok (.iconst (-1), 1) := by decide +kernel
theorem dX6_tell_8 : decode cX6_tell 8 = .ok (.istore_n 3, 1) := by decide +kernel
theorem dX6_tell_9 : decode cX6_tell 9 = .ok (.aload_n 0, 1) := by decide +kernel
theorem dX6_tell_10 : decode cX6_tell 10 = .ok (.aload_n 0, 1) := by decide +kernel
theorem dX6_tell_11 : decode cX6_tell 11 = .ok (.getfield 44, 3) := by decide +kernel
theorem dX6_tell_14 : decode cX6_tell 14 = .ok (.iload_n 2, 1) := by decide +kernel
theorem dX6_tell_15 : decode cX6_tell 15 = .ok (.laload, 1) := by decide +kernel
theorem dX6_tell_16 : decode cX6_tell 16 = .ok (.putfield 136, 3) := by decide +kernel
theorem dX6_tell_19 : decode cX6_tell 19 = .ok (.aload_n 0, 1) := by decide +kernel
theorem dX6_tell_20 : decode cX6_tell 20 = .ok (.aload_n 0, 1) := by decide +kernel
theorem dX6_tell_21 : decode cX6_tell 21 = .ok (.getfield 48, 3) := by decide +kernel
theorem dX6_tell_24 : decode cX6_tell 24 = .ok (.iload_n 2, 1) := by decide +kernel
theorem dX6_tell_25 : decode cX6_tell 25 = .ok (.iaload, 1) := by decide +kernel
theorem dX6_tell_26 : decode cX6_tell 26 = .ok (.putfield 139, 3) := by decide +kernel
theorem dX6_tell_29 : decode cX6_tell 29 = .ok (.aload_n 0, 1) := by decide +kernel
theorem dX6_tell_30 : decode cX6_tell 30 = .ok (.iload_n 1, 1) := by decide +kernel
theorem dX6_tell_31 : decode cX6_tell 31 = .ok (.putfield 142, 3) := by decide +kernel
theorem dX6_tell_34 : decode cX6_tell 34 = .ok (.iconst 0, 1) := by decide +kernel
theorem dX6_tell_35 : decode cX6_tell 35 = .ok (.istore 4, 2) := by decide +kernel
theorem dX6_tell_37 : decode cX6_tell 37 = .ok (.iload 4, 2) := by decide +kernel
theorem dX6_tell_39 : decode cX6_tell 39 = .ok (.aload_n 0, 1) := by decide +kernel
theorem dX6_tell_40 : decode cX6_tell 40 = .ok (.getfield 139, 3) := by decide +kernel
theorem dX6_tell_43 : decode cX6_tell 43 = .ok (.if_icmp .ge 101, 3) := by decide +kernel
theorem dX6_tell_46 : decode cX6_tell 46 = .ok (.aload_n 0, 1) := by decide +kernel
theorem dX6_tell_47 : decode cX6_tell 47 = .ok (.getfield 51, 3) := by decide +kernel
theorem dX6_tell_50 : decode cX6_tell 50 = .ok (.iload_n 2, 1) := by decide +kernel
theorem dX6_tell_51 : decode cX6_tell 51 = .ok (.iaload, 1) := by decide +kernel
theorem dX6_tell_52 : decode cX6_tell 52 = .ok (.istore 5, 2) := by decide +kernel
theorem dX6_tell_54 : decode cX6_tell 54 = .ok (.aload_n 0, 1) := by decide +kernel
theorem dX6_tell_55 : decode cX6_tell 55 = .ok (.iload_n 3, 1) := by decide +kernel
theorem dX6_tell_56 : decode cX6_tell 56 = .ok (.iload 5, 2) := by decide +kernel
theorem dX6_tell_58 : decode cX6_tell 58 = .ok (.iload 4, 2) := by decide +kernel
theorem dX6_tell_60 : decode cX6_tell 60 = .ok (.iload_n 1, 1) := by decide +kernel
theorem dX6_tell_61 : decode cX6_tell 61 = .ok (.invokevirtual 120, 3) := by decide +kernel
theorem dX6_tell_64 : decode cX6_tell 64 = .ok (.istore 6, 2) := by decide +kernel
theorem dX6_tell_66 : decode cX6_tell 66 = .ok (.aload_n 0, 1) := by decide +kernel
theorem dX6_tell_67 : decode cX6_tell 67 = .ok (.getfield 54, 3) := by decide +kernel
theorem dX6_tell_70 : decode cX6_tell 70 = .ok (.iload 4, 2) := by decide +kernel
theorem dX6_tell_72 : decode cX6_tell 72 = .ok (.iload 5, 2) := by decide +kernel
theorem dX6_tell_74 : decode cX6_tell 74 = .ok (.iastore, 1) := by decide +kernel
theorem dX6_tell_75 : decode cX6_tell 75 = .ok (.aload_n 0, 1) := by decide +kernel
theorem dX6_tell_76 : decode cX6_tell 76 = .ok (.getfield 57, 3) := by decide +kernel
theorem dX6_tell_79 : decode cX6_tell 79 = .ok (.iload 4, 2) := by decide +kernel
theorem dX6_tell_81 : decode cX6_tell 81 = .ok (.aload_n 0, 1) := by decide +kernel
theorem dX6_tell_82 : decode cX6_tell 82 = .ok (.getfield 78, 3) := by decide +kernel
theorem dX6_tell_85 : decode cX6_tell 85 = .ok (.iastore, 1) := by decide +kernel
theorem dX6_tell_86 : decode cX6_tell 86 = .ok (.aload_n 0, 1) := by decide +kernel
theorem dX6_tell_87 : decode cX6_tell 87 = .ok (.getfield 60, 3) := by decide +kernel
theorem dX6_tell_90 : decode cX6_tell 90 = .ok (.iload 4, 2) := by decide +kernel
theorem dX6_tell_92 : decode cX6_tell 92 = .ok (.aload_n 0, 1) := by decide +kernel
theorem dX6_tell_93 : decode cX6_tell 93 = .ok (.getfield 81, 3) := by decide +kernel
theorem dX6_tell_96 : decode cX6_tell 96 = .ok (.iastore, 1) := by decide +kernel
theorem dX6_tell_97 : decode cX6_tell 97 = .ok (.aload_n 0, 1) := by decide +kernel
theorem dX6_tell_98 : decode cX6_tell 98 = .ok (.getfield 63, 3) := by decide +kernel
theorem dX6_tell_101 : decode cX6_tell 101 = .ok (.iload 4, 2) := by decide +kernel
theorem dX6_tell_103 : decode cX6_tell 103 = .ok (.aload_n 0, 1) := by decide +kernel
theorem dX6_tell_104 : decode cX6_tell 104 = .ok (.getfield 84, 3) := by decide +kernel
theorem dX6_tell_107 : decode cX6_tell 107 = .ok (.iastore, 1) := by decide +kernel
theorem dX6_tell_108 : decode cX6_tell 108 = .ok (.iload 5, 2) := by decide +kernel
theorem dX6_tell_110 : decode cX6_tell 110 = .ok (.istore_n 3, 1) := by decide +kernel
theorem dX6_tell_111 : decode cX6_tell 111 = .ok (.iload 5, 2) := by decide +kernel
theorem dX6_tell_113 : decode cX6_tell 113 = .ok (.aload_n 0, 1) := by decide +kernel
theorem dX6_tell_114 : decode cX6_tell 114 = .ok (.getfield 66, 3) := by decide +kernel
theorem dX6_tell_117 : decode cX6_tell 117 = .ok (.if_icmp .ge 19, 3) := by decide +kernel
theorem dX6_tell_120 : decode cX6_tell 120 = .ok (.iload 5, 2) := by decide +kernel
theorem dX6_tell_122 : decode cX6_tell 122 = .ok (.iload 4, 2) := by decide +kernel
theorem dX6_tell_124 : decode cX6_tell 124 = .ok (.iconst 1, 1) := by decide +kernel
theorem dX6_tell_125 : decode cX6_tell 125 = .ok (.iadd, 1) := by decide +kernel
theorem dX6_tell_126 : decode cX6_tell 126 = .ok (.aload_n 0, 1) := by decide +kernel
theorem dX6_tell_127 : decode cX6_tell 127 = .ok (.getfield 84, 3) := by decide +kernel
theorem dX6_tell_130 : decode cX6_tell 130 = .ok (.invokestatic 124, 3) := by decide +kernel
theorem dX6_tell_133 : decode cX6_tell 133 = .ok (.goto 4, 3) := by decide +kernel
theorem dX6_tell_136 : decode cX6_tell 136 = .ok (.iconst 0, 1) := by decide +kernel
theorem dX6_tell_137 : decode cX6_tell 137 = .ok (.istore_n 2, 1) := by decide +kernel
theorem dX6_tell_138 : decode cX6_tell 138 = .ok (.iinc 4 1, 3) := by decide +kernel
theorem dX6_tell_141 : decode cX6_tell 141 = .ok (.goto (-104), 3) := by decide +kernel
theorem dX6_tell_144 : decode cX6_tell 144 = .ok (.return_, 1) := by decide +kernel
set_option maxRecDepth 20000 in
theorem ggX6_run_X6_index : GoodIn wsX6_run wsX6_index := goodIn_r _ [59] (by decide +kernel) (by decide +kernel)
set_option maxRecDepth 20000 in
theorem gX6_run_X6_index : GoodIn wsX6_run (va_wsS RX6 124 yX6_index wsX6_index) := goodIn_app (goodIn_of _ (by decide +kernel)) ggX6_run_X6_index
set_option maxRecDepth 20000 in
theorem ggX6_run_X6_tell : GoodIn wsX6_run wsX6_tell := goodIn_r _ [68, 34, 2, 4, 1, 3, 64, 69, 70, 46, 71, 48, 72, 32, 10, 57, 58, 8, 59, 41, 42, 43, 44, 15, 16, 17, 45, 20, 18, 47, 49, 50, 51, 52, 53, 33, 26, 54, 55, 56, 73, 74, 75, 76, 77, 78, 79, 80, 81, 82, 83, 84, 85, 86, 87, 88, 89, 90, 91, 92, 93, 94, 95, 96, 97, 98] (by decide +kernel) (by decide +kernel)
set_option maxRecDepth 20000 in
theorem gX6_run_X6_tell : GoodIn wsX6_run (wsV RX6 149 RX6 yX6_tell wsX6_tell) := goodIn_app (goodIn_of _ (by decide +kernel)) ggX6_run_X6_tell
theorem dX6_run_0 : decode cX6_run 0 = .ok (.aload_n 0, 1) := by decide +kernel
theorem dX6_run_1 : decode cX6_run 1 = .ok (.iconst 0, 1) := by decide +kernel
theorem dX6_run_2 : decode cX6_run 2 = .ok (.putfield 139, 3) := by decide +kernel
theorem dX6_run_5 : decode cX6_run 5 = .ok (.aload_n 0, 1) := by decide +kernel
theorem dX6_run_6 : decode cX6_run 6 = .ok (.lconst 0, 1) := by decide +kernel
theorem dX6_run_7 : decode cX6_run 7 = .ok (.putfield 136, 3) := by decide +kernel
theorem dX6_run_10 : decode cX6_run 10 = .ok (.aload_n 0, 1) := by decide +kernel
theorem dX6_run_11 : decode cX6_run 11 = .ok (.iconst 0, 1) := by decide +kernel
theorem dX6_run_12 : decode cX6_run 12 = .ok (.putfield 142, 3) := by decide +kernel
theorem dX6_run_15 : decode cX6_run 15 = .ok (.iconst 1, 1) := by decide +kernel
theorem dX6_run_16 : decode cX6_run 16 = .ok (.istore_n 1, 1) := by decide +kernel
theorem dX6_run_17 : decode cX6_run 17 = .ok (.iload_n 1, 1) := by decide +kernel
theorem dX6_run_18 : decode cX6_run 18 = .ok (.iconst 4, 1) := by decide +kernel
theorem dX6_run_19 : decode cX6_run 19 = .ok (.if_icmp .ge 41, 3) := by decide +kernel
theorem dX6_run_22 : decode cX6_run 22 = .ok (.aload_n 0, 1) := by decide +kernel
theorem dX6_run_23 : decode cX6_run 23 = .ok (.getfield 142, 3) := by decide +kernel
theorem dX6_run_26 : decode cX6_run 26 = .ok (.ifCond .ne 34, 3) := by decide +kernel
theorem dX6_run_29 : decode cX6_run 29 = .ok (.aload_n 0, 1) := by decide +kernel
theorem dX6_run_30 : decode cX6_run 30 = .ok (.iload_n 1, 1) := by decide +kernel
theorem dX6_run_31 : decode cX6_run 31 = .ok (.iconst 0, 1) := by decide +kernel
theorem dX6_run_32 : decode cX6_run 32 = .ok (.invokevirtual 145, 3) := by decide +kernel
theorem dX6_run_35 : decode cX6_run 35 = .ok (.aload_n 0, 1) := by decide +kernel
theorem dX6_run_36 : decode cX6_run 36 = .ok (.getfield 48, 3) := by decide +kernel
theorem dX6_run_39 : decode cX6_run 39 = .ok (.iconst (-1), 1) := by decide +kernel
theorem dX6_run_40 : decode cX6_run 40 = .ok (.iconst 0, 1) := by decide +kernel
theorem dX6_run_41 : decode cX6_run 41 = .ok (.iconst 0, 1) := by decide +kernel
theorem dX6_run_42 : decode cX6_run 42 = .ok (.invokestatic 124, 3) := by decide +kernel
theorem dX6_run_45 : decode cX6_run 45 = .ok (.iaload, 1) := by decide +kernel
theorem dX6_run_46 : decode cX6_run 46 = .ok (.ifCond .le 8, 3) := by decide +kernel
theorem dX6_run_49 : decode cX6_run 49 = .ok (.aload_n 0, 1) := by decide +kernel
theorem dX6_run_50 : decode cX6_run 50 = .ok (.iload_n 1, 1) := by decide +kernel
theorem dX6_run_51 : decode cX6_run 51 = .ok (.invokevirtual 149, 3) := by decide +kernel
theorem dX6_run_54 : decode cX6_run 54 = .ok (.iinc 1 1, 3) := by decide +kernel
theorem dX6_run_57 : decode cX6_run 57 = .ok (.goto (-40), 3) := by decide +kernel
theorem dX6_run_60 : decode cX6_run 60 = .ok (.aload_n 0, 1) := by decide +kernel
theorem dX6_run_61 : decode cX6_run 61 = .ok (.getfield 139, 3) := by decide +kernel
theorem dX6_run_64 : decode cX6_run 64 = .ok (.ireturn, 1) := by decide +kernel
set_option maxRecDepth 20000 in
theorem ggX6_loose_X6_in : GoodIn wsX6_loose wsX6_in := goodIn_r _ [6] (by decide +kernel) (by decide +kernel)
set_option maxRecDepth 20000 in
theorem gX6_loose_X6_in : GoodIn wsX6_loose (va_wsS RX6 70 yX6_in wsX6_in) := goodIn_app (goodIn_of _ (by decide +kernel)) ggX6_loose_X6_in
set_option maxRecDepth 20000 in
theorem ggX6_loose_X6_index : GoodIn wsX6_loose wsX6_index := goodIn_r _ [60] (by decide +kernel) (by decide +kernel)
set_option maxRecDepth 20000 in
theorem gX6_loose_X6_index : GoodIn wsX6_loose (va_wsS RX6 124 yX6_index wsX6_index) := goodIn_app (goodIn_of _ (by decide +kernel)) ggX6_loose_X6_index
set_option maxRecDepth 20000 in
theorem ggX6_loose_X6_tell : GoodIn wsX6_loose wsX6_tell := goodIn_r _ [69, 35, 70, 2, 71, 1, 65, 72, 73, 47, 74, 49, 75, 33, 11, 58, 59, 5, 60, 42, 43, 44, 45, 16, 17, 18, 46, 21, 19, 48, 50, 51, 52, 53, 54, 34, 27, 55, 56, 57, 76, 77, 78, 79, 80, 81, 82, 83, 84, 85, 86, 87, 88, 89, 90, 91, 92, 93, 94, 95, 96, 97, 98, 99, 100, 101] (by decide +kernel) (by decide +kernel)
set_option maxRecDepth 20000 in
theorem gX6_loose_X6_tell : GoodIn wsX6_loose (wsV RX6 149 RX6 yX6_tell wsX6_tell) := goodIn_app (goodIn_of _ (by decide +kernel)) ggX6_loose_X6_tell
theorem dX6_loose_0 : decode cX6_loose 0 = .ok (.iload_n 1, 1) := by decide +kernel
theorem dX6_loose_1 : decode cX6_loose 1 = .ok (.iconst 1, 1) := by decide +kernel
theorem dX6_loose_2 : decode cX6_loose 2 = .ok (.bipush 50, 2) := by decide +kernel
theorem dX6_loose_4 : decode cX6_loose 4 = .ok (.invokestatic 70, 3) := by decide +kernel
theorem dX6_loose_7 : decode cX6_loose 7 = .ok (.ifCond .eq 10, 3) := by decide +kernel
theorem dX6_loose_10 : decode cX6_loose 10 = .ok (.aload_n 0, 1) := by decide +kernel
theorem dX6_loose_11 : decode cX6_loose 11 = .ok (.getfield 142, 3) := by decide +kernel
theorem dX6_loose_14 : decode cX6_loose 14 = .ok (.ifCond .ne 5, 3) := by decide +kernel
theorem dX6_loose_17 : decode cX6_loose 17 = .ok (.iconst (-1), 1) := by decide +kernel
theorem dX6_loose_18 : decode cX6_loose 18 = .ok (.ireturn, 1) := by decide +kernel
theorem dX6_loose_19 : decode cX6_loose 19 = .ok (.aload_n 0, 1) := by decide +kernel
theorem dX6_loose_20 : decode cX6_loose 20 = .ok (.aload_n 0, 1) := by decide +kernel
theorem dX6_loose_21 : decode cX6_loose 21 = .ok (.getfield 142, 3) := by decide +kernel
theorem dX6_loose_24 : decode cX6_loose 24 = .ok (.iload_n 1, 1) := by decide +kernel
theorem dX6_loose_25 : decode cX6_loose 25 = .ok (.invokevirtual 145, 3) := by decide +kernel
theorem dX6_loose_28 : decode cX6_loose 28 = .ok (.aload_n 0, 1) := by decide +kernel
theorem dX6_loose_29 : decode cX6_loose 29 = .ok (.getfield 48, 3) := by decide +kernel
theorem dX6_loose_32 : decode cX6_loose 32 = .ok (.iconst (-1), 1) := by decide +kernel
theorem dX6_loose_33 : decode cX6_loose 33 = .ok (.iconst 0, 1) := by decide +kernel
theorem dX6_loose_34 : decode cX6_loose 34 = .ok (.iconst 0, 1) := by decide +kernel
theorem dX6_loose_35 : decode cX6_loose 35 = .ok (.invokestatic 124, 3) := by decide +kernel
theorem dX6_loose_38 : decode cX6_loose 38 = .ok (.iaload, 1) := by decide +kernel
theorem dX6_loose_39 : decode cX6_loose 39 = .ok (.ifCond .ne 5, 3) := by decide +kernel
theorem dX6_loose_42 : decode cX6_loose 42 = .ok (.iconst 0, 1) := by decide +kernel
theorem dX6_loose_43 : decode cX6_loose 43 = .ok (.ireturn, 1) := by decide +kernel
theorem dX6_loose_44 : decode cX6_loose 44 = .ok (.aload_n 0, 1) := by decide +kernel
theorem dX6_loose_45 : decode cX6_loose 45 = .ok (.aload_n 0, 1) := by decide +kernel
theorem dX6_loose_46 : decode cX6_loose 46 = .ok (.getfield 142, 3) := by decide +kernel
theorem dX6_loose_49 : decode cX6_loose 49 = .ok (.invokevirtual 149, 3) := by decide +kernel
theorem dX6_loose_52 : decode cX6_loose 52 = .ok (.iconst 1, 1) := by decide +kernel
theorem dX6_loose_53 : decode cX6_loose 53 = .ok (.ireturn, 1) := by decide +kernel
theorem dX6_lines_0 : decode cX6_lines 0 = .ok (.aload_n 0, 1) := by decide +kernel
theorem dX6_lines_1 : decode cX6_lines 1 = .ok (.getfield 139, 3) := by decide +kernel
theorem dX6_lines_4 : decode cX6_lines 4 = .ok (.ireturn, 1) := by decide +kernel
set_option maxRecDepth 20000 in
theorem ggX6_at_X6_in : GoodIn wsX6_at wsX6_in := goodIn_r _ [6] (by decide +kernel) (by decide +kernel)
set_option maxRecDepth 20000 in
theorem gX6_at_X6_in : GoodIn wsX6_at (va_wsS RX6 70 yX6_in wsX6_in) := goodIn_app (goodIn_of _ (by decide +kernel)) ggX6_at_X6_in
theorem dX6_at_0 : decode cX6_at 0 = .ok (.iload_n 1, 1) := by decide +kernel
theorem dX6_at_1 : decode cX6_at 1 = .ok (.iconst 0, 1) := by decide +kernel
theorem dX6_at_2 : decode cX6_at 2 = .ok (.aload_n 0, 1) := by decide +kernel
theorem dX6_at_3 : decode cX6_at 3 = .ok (.getfield 139, 3) := by decide +kernel
theorem dX6_at_6 : decode cX6_at 6 = .ok (.iconst 1, 1) := by decide +kernel
theorem dX6_at_7 : decode cX6_at 7 = .ok (.isub, 1) := by decide +kernel
theorem dX6_at_8 : decode cX6_at 8 = .ok (.invokestatic 70, 3) := by decide +kernel
theorem dX6_at_11 : decode cX6_at 11 = .ok (.ifCond .eq 12, 3) := by decide +kernel
theorem dX6_at_14 : decode cX6_at 14 = .ok (.aload_n 0, 1) := by decide +kernel
theorem dX6_at_15 : decode cX6_at 15 = .ok (.getfield 54, 3) := by decide +kernel
theorem dX6_at_18 : decode cX6_at 18 = .ok (.iload_n 1, 1) := by decide +kernel
theorem dX6_at_19 : decode cX6_at 19 = .ok (.iaload, 1) := by decide +kernel
theorem dX6_at_20 : decode cX6_at 20 = .ok (.goto 4, 3) := by decide +kernel
theorem dX6_at_23 : decode cX6_at 23 = .ok (.iconst (-1), 1) := by decide +kernel
theorem dX6_at_24 : decode cX6_at 24 = .ok (.ireturn, 1) := by decide +kernel
set_option maxRecDepth 20000 in
theorem ggX6_lacks_X6_in : GoodIn wsX6_lacks wsX6_in := goodIn_r _ [6] (by decide +kernel) (by decide +kernel)
set_option maxRecDepth 20000 in
theorem gX6_lacks_X6_in : GoodIn wsX6_lacks (va_wsS RX6 70 yX6_in wsX6_in) := goodIn_app (goodIn_of _ (by decide +kernel)) ggX6_lacks_X6_in
theorem dX6_lacks_0 : decode cX6_lacks 0 = .ok (.iload_n 1, 1) := by decide +kernel
theorem dX6_lacks_1 : decode cX6_lacks 1 = .ok (.iconst 0, 1) := by decide +kernel
theorem dX6_lacks_2 : decode cX6_lacks 2 = .ok (.aload_n 0, 1) := by decide +kernel
theorem dX6_lacks_3 : decode cX6_lacks 3 = .ok (.getfield 139, 3) := by decide +kernel
theorem dX6_lacks_6 : decode cX6_lacks 6 = .ok (.iconst 1, 1) := by decide +kernel
theorem dX6_lacks_7 : decode cX6_lacks 7 = .ok (.isub, 1) := by decide +kernel
theorem dX6_lacks_8 : decode cX6_lacks 8 = .ok (.invokestatic 70, 3) := by decide +kernel
theorem dX6_lacks_11 : decode cX6_lacks 11 = .ok (.ifCond .eq 12, 3) := by decide +kernel
theorem dX6_lacks_14 : decode cX6_lacks 14 = .ok (.aload_n 0, 1) := by decide +kernel
theorem dX6_lacks_15 : decode cX6_lacks 15 = .ok (.getfield 57, 3) := by decide +kernel
theorem dX6_lacks_18 : decode cX6_lacks 18 = .ok (.iload_n 1, 1) := by decide +kernel
theorem dX6_lacks_19 : decode cX6_lacks 19 = .ok (.iaload, 1) := by decide +kernel
theorem dX6_lacks_20 : decode cX6_lacks 20 = .ok (.goto 4, 3) := by decide +kernel
theorem dX6_lacks_23 : decode cX6_lacks 23 = .ok (.iconst 0, 1) := by decide +kernel
theorem dX6_lacks_24 : decode cX6_lacks 24 = .ok (.ireturn, 1) := by decide +kernel
set_option maxRecDepth 20000 in
theorem ggX6_badness_X6_in : GoodIn wsX6_badness wsX6_in := goodIn_r _ [6] (by decide +kernel) (by decide +kernel)
set_option maxRecDepth 20000 in
theorem gX6_badness_X6_in : GoodIn wsX6_badness (va_wsS RX6 70 yX6_in wsX6_in) := goodIn_app (goodIn_of _ (by decide +kernel)) ggX6_badness_X6_in
theorem dX6_badness_0 : decode cX6_badness 0 = .ok (.iload_n 1, 1) := by decide +kernel
theorem dX6_badness_1 : decode cX6_badness 1 = .ok (.iconst 0, 1) := by decide +kernel
theorem dX6_badness_2 : decode cX6_badness 2 = .ok (.aload_n 0, 1) := by decide +kernel
theorem dX6_badness_3 : decode cX6_badness 3 = .ok (.getfield 139, 3) := by decide +kernel
theorem dX6_badness_6 : decode cX6_badness 6 = .ok (.iconst 1, 1) := by decide +kernel
theorem dX6_badness_7 : decode cX6_badness 7 = .ok (.isub, 1) := by decide +kernel
theorem dX6_badness_8 : decode cX6_badness 8 = .ok (.invokestatic 70, 3) := by decide +kernel
theorem dX6_badness_11 : decode cX6_badness 11 = .ok (.ifCond .eq 12, 3) := by decide +kernel
theorem dX6_badness_14 : decode cX6_badness 14 = .ok (.aload_n 0, 1) := by decide +kernel
theorem dX6_badness_15 : decode cX6_badness 15 = .ok (.getfield 60, 3) := by decide +kernel
theorem dX6_badness_18 : decode cX6_badness 18 = .ok (.iload_n 1, 1) := by decide +kernel
theorem dX6_badness_19 : decode cX6_badness 19 = .ok (.iaload, 1) := by decide +kernel
theorem dX6_badness_20 : decode cX6_badness 20 = .ok (.goto 4, 3) := by decide +kernel
theorem dX6_badness_23 : decode cX6_badness 23 = .ok (.iconst 0, 1) := by decide +kernel
theorem dX6_badness_24 : decode cX6_badness 24 = .ok (.ireturn, 1) := by decide +kernel
set_option maxRecDepth 20000 in
theorem ggX6_classOf_X6_in : GoodIn wsX6_classOf wsX6_in := goodIn_r _ [6] (by decide +kernel) (by decide +kernel)
set_option maxRecDepth 20000 in
theorem gX6_classOf_X6_in : GoodIn wsX6_classOf (va_wsS RX6 70 yX6_in wsX6_in) := goodIn_app (goodIn_of _ (by decide +kernel)) ggX6_classOf_X6_in
theorem dX6_classOf_0 : decode cX6_classOf 0 = .ok (.iload_n 1, 1) := by decide +kernel
theorem dX6_classOf_1 : decode cX6_classOf 1 = .ok (.iconst 0, 1) := by decide +kernel
theorem dX6_classOf_2 : decode cX6_classOf 2 = .ok (.aload_n 0, 1) := by decide +kernel
theorem dX6_classOf_3 : decode cX6_classOf 3 = .ok (.getfield 139, 3) := by decide +kernel
theorem dX6_classOf_6 : decode cX6_classOf 6 = .ok (.iconst 1, 1) := by decide +kernel
theorem dX6_classOf_7 : decode cX6_classOf 7 = .ok (.isub, 1) := by decide +kernel
theorem dX6_classOf_8 : decode cX6_classOf 8 = .ok (.invokestatic 70, 3) := by decide +kernel
theorem dX6_classOf_11 : decode cX6_classOf 11 = .ok (.ifCond .eq 12, 3) := by decide +kernel
theorem dX6_classOf_14 : decode cX6_classOf 14 = .ok (.aload_n 0, 1) := by decide +kernel
theorem dX6_classOf_15 : decode cX6_classOf 15 = .ok (.getfield 63, 3) := by decide +kernel
theorem dX6_classOf_18 : decode cX6_classOf 18 = .ok (.iload_n 1, 1) := by decide +kernel
theorem dX6_classOf_19 : decode cX6_classOf 19 = .ok (.iaload, 1) := by decide +kernel
theorem dX6_classOf_20 : decode cX6_classOf 20 = .ok (.goto 4, 3) := by decide +kernel
theorem dX6_classOf_23 : decode cX6_classOf 23 = .ok (.iconst 0, 1) := by decide +kernel
theorem dX6_classOf_24 : decode cX6_classOf 24 = .ok (.ireturn, 1) := by decide +kernel
theorem dX6_demerits_0 : decode cX6_demerits 0 = .ok (.aload_n 0, 1) := by decide +kernel
theorem dX6_demerits_1 : decode cX6_demerits 1 = .ok (.getfield 136, 3) := by decide +kernel
theorem dX6_demerits_4 : decode cX6_demerits 4 = .ok (.lreturn, 1) := by decide +kernel
theorem dX6_pass_0 : decode cX6_pass 0 = .ok (.aload_n 0, 1) := by decide +kernel
theorem dX6_pass_1 : decode cX6_pass 1 = .ok (.getfield 142, 3) := by decide +kernel
theorem dX6_pass_4 : decode cX6_pass 4 = .ok (.ireturn, 1) := by decide +kernel
theorem dX6_clear_0 : decode cX6_clear 0 = .ok (.aload_n 0, 1) := by decide +kernel
theorem dX6_clear_1 : decode cX6_clear 1 = .ok (.getfield 66, 3) := by decide +kernel
theorem dX6_clear_4 : decode cX6_clear 4 = .ok (.istore_n 1, 1) := by decide +kernel
theorem dX6_clear_5 : decode cX6_clear 5 = .ok (.aload_n 0, 1) := by decide +kernel
theorem dX6_clear_6 : decode cX6_clear 6 = .ok (.iconst 0, 1) := by decide +kernel
theorem dX6_clear_7 : decode cX6_clear 7 = .ok (.putfield 66, 3) := by decide +kernel
theorem dX6_clear_10 : decode cX6_clear 10 = .ok (.iload_n 1, 1) := by decide +kernel
theorem dX6_clear_11 : decode cX6_clear 11 = .ok (.ireturn, 1) := by decide +kernel
